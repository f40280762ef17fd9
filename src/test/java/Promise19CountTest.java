/** Promise 19, `int count(int what)`. */
public final class Promise19CountTest extends TestKit {
    public static void main(String[] args) throws IllegalAccessException {
        run(Promise19CountTest.class);
    }

    // "0 BLOCKS that are USED"

    static void what_0_noneAndAll() {
        keeps("none", Volumes::empty, v -> v.count(0), 0);
        keeps("three", Volumes::twoFiles, v -> v.count(0), 3);
        keeps("39", () -> Volumes.blocksInTurns(39), v -> v.count(0), 39);
        keeps("all", Volumes::noBlockInOrder, v -> v.count(0), 40);
    }

    static void what_0_aFileWhereverItStands() {
        Volume v = Volumes.twoFiles();
        v.cut(1);
        v.remove(0, 1);
        due("in no ENTRY, but a FILE", v.count(0), 3);
        v.restart();
        due("of KIND 0", v.count(0), 1);
    }

    static void what_0_whileAMoveIsHalfDone() {
        for (int n = 0; n <= 10; n++) {
            Volume v = Volumes.twoFiles();
            v.cut(n);
            v.step();
            due("cut behind " + n, v.count(0), 3);
        }
    }

    // "1 INODES that are not of KIND 0"

    static void what_1_theRootAloneAndAll() {
        keeps("THE ROOT", Volumes::empty, v -> v.count(1), 1);
        keeps("all", Volumes::noInode, v -> v.count(1), 12);
        keeps("all deep", Volumes::deep, v -> v.count(1), 12);
    }

    static void what_1_oneThatStandsNowhereToo() {
        Volume v = new Volume();
        v.cut(10);
        v.make(0, 1, 2);
        due("KIND is written", v.count(1), 2);
        Volume w = new Volume();
        w.cut(9);
        w.make(0, 1, 2);
        due("KIND is not written", w.count(1), 1);
    }

    // "2 WRITES ever"

    static void what_2_ofEachAct() {
        Volume v = new Volume();
        due("at first", v.count(2), 0);
        v.make(0, 1, 2);
        due("make 11", v.count(2), 11);
        v.make(0, 2, 1);
        due("make 11", v.count(2), 22);
        v.append(1, 0, 0, 0);
        due("append 5", v.count(2), 27);
        v.put(1, 0, 0, 0);
        due("put 1", v.count(2), 28);
        v.rename(0, 1, 2, 1);
        due("rename 2", v.count(2), 30);
        v.remove(2, 1);
        due("remove 2", v.count(2), 32);
    }

    static void what_2_notTheOneThatFailed() {
        Volume v = Volumes.twoFiles();
        v.cut(0);
        v.put(1, 0, 0, 0);
        due("none", v.count(2), 37);
        v.restart();
        v.cut(4);
        v.append(1, 0, 0, 0);
        due("four", v.count(2), 41);
    }

    static void what_2_alsoThoseOfRestartsThatFailed() {
        Volume v = Volumes.twoFiles();
        v.cut(4);
        v.step();
        v.cut(3);
        v.restart();
        due("4 and 3", v.count(2), 44);
        v.restart();
        due("and 6", v.count(2), 50);
    }

    static void what_2_overMoreThanAByteAndAShort() {
        Volume v = new Volume();
        for (int n = 0; n < 250; n++) {
            v.make(0, 1, 2);
            v.remove(0, 1);
        }
        due("WRITES", v.count(2), 3250);
    }

    // "3 MOVES that were done to their end ever (also by restarts)"

    static void what_3_ofSteps() {
        Volume v = Volumes.twoFiles();
        due("none yet", v.count(3), 0);
        for (int n = 1; n <= 3; n++) {
            v.step();
            due("steps", v.count(3), n);
        }
        v.step();
        due("a step that moves nothing", v.count(3), 3);
        v.restart();
        due("a restart that moves nothing", v.count(3), 3);
    }

    static void what_3_notBehindTheLastWriteButOne() {
        Volume v = Volumes.twoFiles();
        v.cut(9);
        v.step();
        due("PLACE is written, STATE 0 is not", v.count(3), 0);
        v.cut(1);
        v.restart();
        due("nor in a restart", v.count(3), 0);
        v.restart();
        due("to its end", v.count(3), 1);
    }

    static void what_3_alsoByRestarts_fromState1AndState2() {
        for (int n = 0; n <= 10; n++) {
            Volume v = Volumes.twoFiles();
            v.cut(n);
            v.step();
            due("cut behind " + n, v.count(3), n == 10 ? 1 : 0);
            v.cut(NONE);
            v.restart();
            due("restarted behind " + n, v.count(3), n >= 4 ? 1 : 0);
        }
    }

    static void what_3_notOfAStepThatIsRefused() {
        Volume v = Volumes.noBlockInTurns();
        v.step();
        due("FULL", v.count(3), 0);
    }

    // "4 BLOCKS that are not where they ought to be"

    static void what_4_noneAndMany() {
        keeps("nothing there", Volumes::empty, v -> v.count(4), 0);
        keeps("all in order", Volumes::noBlockInOrder, v -> v.count(4), 0);
        keeps("two of three", Volumes::twoFiles, v -> v.count(4), 2);
        keeps("all but the first and the last", Volumes::noBlockInTurns, v -> v.count(4), 38);
    }

    static void what_4_all() {
        Volume v = Volumes.noBlockInOrder();
        v.remove(0, 1);
        due("all 32 are eight too far", v.count(4), 32);
    }

    static void what_4_ofInode11TheLast() {
        Volume v = Volumes.noInode();
        v.append(11, 0, 0, 0);
        due("in place", v.count(4), 0);
        v.append(11, 0, 0, 0);
        v.append(2, 0, 0, 0);
        due("0, 3, 1, 2", v.count(4), 3);
        v.remove(0, 2);
        due("1, 2", v.count(4), 2);
    }

    static void what_4_behindOneThatIsWrongOthersMayBeRight() {
        Volume v = Volumes.twoFiles();
        v.append(2, 0, 0, 0);
        due("0, 2, 1, 3", v.count(4), 2);
    }

    static void what_4_emptyFilesTakeNoPlace() {
        Volume v = new Volume();
        v.make(0, 1, 2);
        v.make(0, 2, 2);
        v.append(2, 0, 0, 0);
        due("in place", v.count(4), 0);
    }

    // "5 ENTRIES (in DIRECTORIES that are INODES of that KIND)"

    static void what_5_noneAndMany() {
        keeps("none", Volumes::empty, v -> v.count(5), 0);
        keeps("eleven", Volumes::noInode, v -> v.count(5), 11);
        keeps("eleven deep", Volumes::deep, v -> v.count(5), 11);
        keeps("eight in one", Volumes::fullDirectory, v -> v.count(5), 9);
    }

    static void what_5_aFilesPlacesAreNone() {
        keeps("eight BLOCKS", Volumes::eightBlocks, v -> v.count(5), 1);
    }

    static void what_5_aRemovedFilesPlacesAreNone() {
        Volume v = Volumes.eightBlocks();
        v.remove(0, 1);
        due("none", v.count(5), 0);
    }

    static void what_5_aHalfDoneRenameHasTwo() {
        Volume v = Volumes.twoDirectories();
        v.cut(1);
        v.rename(2, 5, 1, 6);
        due("four", v.count(5), 4);
        v.restart();
        due("three", v.count(5), 3);
    }

    static void what_5_inADirectoryThatStandsNowhereToo() {
        Volume v = Volumes.twoDirectories();
        v.cut(1);
        v.remove(0, 1);
        due("KIND", v.inode(1, 0), 1);
        due("ENTRIES", v.count(5), 2);
    }

    // "BAD"

    static void bad_minus1And6() {
        keeps("count(-1)", Volumes::twoFiles, v -> v.count(-1), BAD);
        keeps("count(6)", Volumes::twoFiles, v -> v.count(6), BAD);
    }

    static void bad_farOffAndWrappedAround() {
        for (int what : wrongNumbers(5, 2)) {
            keeps("count(" + what + ")", Volumes::twoFiles, v -> v.count(what), BAD);
        }
        keeps("while DOWN", () -> Volumes.down(Volumes.twoFiles()), v -> v.count(6), BAD);
    }
}
