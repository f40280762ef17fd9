/** Promise 6, `int remove(int directory, int name)`. */
public final class Promise06RemoveTest extends TestKit {
    public static void main(String[] args) throws IllegalAccessException {
        run(Promise06RemoveTest.class);
    }

    // "What a NAME in a DIRECTORY is goes: its INODE"

    static void aFileWithBlocks_itsBlocksAreFree() {
        Volume v = Volumes.twoFiles();
        due("remove", v.remove(0, 1), 1);
        due("find", v.find(0, 1), NONE);
        due("INODES", v.count(1), 2);
        due("USED", v.count(0), 1);
    }

    static void anEmptyFile() {
        Volume v = Volumes.noInode();
        due("remove", v.remove(1, 11), 11);
        due("INODES", v.count(1), 11);
    }

    static void anEmptyDirectory() {
        Volume v = Volumes.twoDirectories();
        due("remove", v.remove(0, 1), 1);
        due("KIND", v.inode(1, 0), 0);
    }

    static void names_1And99() {
        Volume v = new Volume();
        v.make(0, 1, 2);
        v.make(0, 99, 2);
        due("99", v.remove(0, 99), 2);
        due("1", v.remove(0, 1), 1);
        due("ENTRIES", v.count(5), 0);
    }

    static void fromTheFirstAndTheLastPlace() {
        Volume v = Volumes.fullDirectory();
        due("PLACE 7", v.remove(1, 9), 9);
        due("its ENTRY", v.inode(1, 9), 0);
        due("PLACE 0", v.remove(1, 2), 2);
        due("its ENTRY", v.inode(1, 2), 0);
        due("the others", v.count(5), 7);
    }

    static void sameNameElsewhereStays() {
        Volume v = Volumes.twoDirectories();
        v.make(1, 5, 2);
        due("remove", v.remove(1, 5), 4);
        due("the other one", v.find(2, 5), 3);
    }

    // "the ENTRY 0; the KIND 0"

    static void writes_entryThenKind() {
        writes(Volumes::twoFiles, v -> v.remove(0, 1), 1, write(Words.place(0, 0), 0), write(Words.kind(1), 0));
        writes(Volumes::twoDirectories, v -> v.remove(0, 1), 1, write(Words.place(0, 0), 0), write(Words.kind(1), 0));
        writes(Volumes::noInode, v -> v.remove(1, 11), 11, write(Words.place(1, 4), 0), write(Words.kind(11), 0));
    }

    // "BAD"

    static void bad_name0And100() {
        keeps("name 0", Volumes::twoFiles, v -> v.remove(0, 0), BAD);
        keeps("name 100", Volumes::twoFiles, v -> v.remove(0, 100), BAD);
    }

    static void bad_namesFarOffAndWrappedAround() {
        for (int name : wrongNames(1)) {
            keeps("name " + name, Volumes::twoFiles, v -> v.remove(0, name), BAD);
        }
    }

    static void bad_theWholeEntryIsNoName() {
        keeps("name 101", Volumes::twoFiles, v -> v.remove(0, 101), BAD);
    }

    static void bad_directoryMinus1And12() {
        keeps("directory -1", Volumes::twoFiles, v -> v.remove(-1, 1), BAD);
        keeps("directory 12", Volumes::twoFiles, v -> v.remove(12, 1), BAD);
    }

    static void bad_directoriesFarOffAndWrappedAround() {
        for (int d : wrongInodes(2)) {
            keeps("directory " + d, Volumes::twoDirectories, v -> v.remove(d, 5), BAD);
        }
    }

    static void bad_directoryIsAFileOrOfKind0() {
        keeps("a FILE", Volumes::twoFiles, v -> v.remove(1, 1), BAD);
        keeps("none", Volumes::twoFiles, v -> v.remove(3, 1), BAD);
    }

    // "NONE": "there is no such NAME"

    static void none_inAnEmptyDirectory() {
        keeps("remove", Volumes::twoDirectories, v -> v.remove(1, 5), NONE);
        keeps("in THE ROOT", Volumes::empty, v -> v.remove(0, 1), NONE);
    }

    static void none_besideNamesThatAreThere() {
        keeps("one less", Volumes::fullDirectory, v -> v.remove(1, 1), NONE);
        keeps("one more", Volumes::fullDirectory, v -> v.remove(1, 10), NONE);
    }

    static void none_theSecondTime() {
        Volume v = Volumes.twoFiles();
        v.remove(0, 1);
        due("again", v.remove(0, 1), NONE);
    }

    static void none_whatStandsDeeper() {
        keeps("remove", Volumes::twoDirectories, v -> v.remove(0, 5), NONE);
    }

    // "NO: a DIRECTORY that has ENTRIES"

    static void no_oneEntry() {
        keeps("remove", Volumes::twoDirectories, v -> v.remove(0, 2), NO);
    }

    static void no_eightEntries() {
        keeps("remove", Volumes::fullDirectory, v -> v.remove(0, 1), NO);
    }

    static void no_oneEntryInWhicheverPlace() {
        for (int stays = 2; stays <= 9; stays++) {
            int only = stays;
            keeps("only PLACE " + (stays - 2), () -> oneOfEight(only), v -> v.remove(0, 1), NO);
        }
    }

    private static Volume oneOfEight(int stays) {
        Volume v = Volumes.fullDirectory();
        for (int name = 2; name <= 9; name++) {
            if (name != stays) {
                v.remove(1, name);
            }
        }
        return v;
    }

    static void no_anEntryThatIsADirectory() {
        for (int d = 0; d < 10; d++) {
            int directory = d;
            keeps("in " + d, Volumes::deep, v -> v.remove(directory, 50), NO);
        }
        Volume v = Volumes.deep();
        due("the deepest goes", v.remove(10, 50), 11);
        due("then the next", v.remove(9, 50), 10);
    }

    static void no_noMoreWhenTheLastEntryIsGone() {
        Volume v = Volumes.twoDirectories();
        v.remove(2, 5);
        due("remove", v.remove(0, 2), 2);
        Volume w = Volumes.twoDirectories();
        w.rename(2, 5, 1, 5);
        due("behind rename", w.remove(0, 2), 2);
        due("the other one has it", w.remove(0, 1), NO);
    }

    static void no_isNotForAFileWithBlocks() {
        Volume v = Volumes.eightBlocks();
        due("remove", v.remove(0, 1), 1);
    }

    // "of several the first"

    static void order_badAheadOfDown() {
        keeps("name", () -> Volumes.down(Volumes.twoFiles()), v -> v.remove(0, 0), BAD);
        keeps("directory", () -> Volumes.down(Volumes.twoFiles()), v -> v.remove(1, 1), BAD);
    }

    static void order_badAheadOfNone() {
        keeps("directory", Volumes::twoFiles, v -> v.remove(1, 50), BAD);
    }

    static void order_down() {
        keeps("remove", () -> Volumes.down(Volumes.twoFiles()), v -> v.remove(0, 1), DOWN);
    }

    static void order_downAheadOfNone() {
        keeps("remove", () -> Volumes.down(Volumes.twoFiles()), v -> v.remove(0, 50), DOWN);
    }

    static void order_downAheadOfNo() {
        keeps("remove", () -> Volumes.down(Volumes.twoDirectories()), v -> v.remove(0, 2), DOWN);
    }
}
