/** Promise 9, `int restart()`, and what the terms say of a restart. */
public final class Promise09RestartTest extends TestKit {
    public static void main(String[] args) throws IllegalAccessException {
        run(Promise09RestartTest.class);
    }

    // "A restart (also when THE DISK is not DOWN): how many WRITES it did"

    static void notDown_nothingToDo() {
        keeps("new", Volumes::empty, Volume::restart, 0);
        keeps("with FILES", Volumes::twoFiles, Volume::restart, 0);
        keeps("with all INODES", Volumes::noInode, Volume::restart, 0);
        keeps("eight ENTRIES", Volumes::fullRoot, Volume::restart, 0);
        keeps("eleven deep", Volumes::deep, Volume::restart, 0);
        keeps("no BLOCK is FREE", Volumes::noBlockInTurns, Volume::restart, 0);
    }

    static void notDown_theRecordOfAMoveThatWasDoneIsNotDoneAgain() {
        keeps("STATE 0", () -> steppedOnce(), Volume::restart, 0);
    }

    private static Volume steppedOnce() {
        Volume v = Volumes.twoFiles();
        v.step();
        return v;
    }

    static void down_nothingWritten_0() {
        Volume v = Volumes.down(Volumes.twoFiles());
        due("restart", v.restart(), 0);
        due("isDown", v.isDown(), 0);
    }

    static void theSecondOneWritesNothing() {
        for (int n = 0; n < 10; n++) {
            Volume v = cutStep(n);
            v.restart();
            int before = v.count(2);
            due("again, behind " + n, v.restart(), 0);
            due("WRITES", v.count(2), before);
        }
    }

    // "1 THE RECORD: STATE 1: the MOVE from DATA 0 on; STATE 2: from that PLACE on"

    /** FILES 1 and 2, and the step that moves BLOCK 1 to 39 cut behind n WRITES. */
    private static Volume cutStep(int n) {
        Volume v = Volumes.twoFiles();
        v.cut(n);
        v.step();
        return v;
    }

    static void state0_cutBehind0To3_theMoveIsNotDone() {
        for (int n = 0; n <= 3; n++) {
            Volume v = cutStep(n);
            due("restart, behind " + n, v.restart(), 0);
            due("PLACE", v.inode(2, 2), 1);
            due("MOVES", v.count(3), 0);
            due("DATA of the other BLOCK", v.dataOf(39, 0), 0);
            due("THE RECORD's INODE", v.record(1), n >= 1 ? 2 : 0);
            due("THE RECORD's BLOCK", v.record(3), n >= 3 ? 39 : 0);
        }
    }

    static void state1_cutBehind4To7_fromData0On() {
        for (int n = 4; n <= 7; n++) {
            int behind = n;
            writes(() -> cutStep(behind), Volume::restart, 6, write(Words.data(39, 0), 4),
                write(Words.data(39, 1), 5), write(Words.data(39, 2), 6), write(Words.record(0), 2),
                write(Words.place(2, 0), 39), write(Words.record(0), 0));
        }
    }

    static void state2_cutBehind8And9_fromThatPlaceOn() {
        for (int n = 8; n <= 9; n++) {
            int behind = n;
            writes(() -> cutStep(behind), Volume::restart, 2,
                write(Words.place(2, 0), 39), write(Words.record(0), 0));
        }
    }

    static void state1_aMoveToG() {
        writes(Promise09RestartTest::cutMoveTo0, Volume::restart, 6, write(Words.data(0, 0), 4),
            write(Words.data(0, 1), 5), write(Words.data(0, 2), 6), write(Words.record(0), 2),
            write(Words.place(2, 0), 0), write(Words.record(0), 0));
    }

    private static Volume cutMoveTo0() {
        Volume v = Volumes.twoFiles();
        v.remove(0, 1);
        v.cut(5);
        v.step();
        return v;
    }

    static void theTreeStaysWhereverTheStepWasCut() {
        long tree = Volumes.twoFiles().tree();
        for (int n = 0; n < 10; n++) {
            Volume v = cutStep(n);
            due("DOWN, behind " + n, v.tree(), tree);
            v.restart();
            due("behind the restart", v.tree(), tree);
            due("MOVES", v.count(3), n < 4 ? 0 : 1);
        }
    }

    // "2 ENTRIES .. one whose INODE .. stands in an ENTRY ahead of it in this order: 0"

    static void double_intoALesserDirectory_theNewEntryStays() {
        writes(() -> cutRename(Volumes.twoDirectories(), 2, 5, 1, 6), Volume::restart, 1,
            write(Words.place(2, 0), 0));
    }

    static void double_intoAGreaterDirectory_theOldEntryStays() {
        writes(() -> cutRename(Volumes.twoDirectories(), 0, 1, 2, 6), Volume::restart, 1,
            write(Words.place(2, 1), 0));
    }

    static void double_inTheSameDirectory_theLesserPlaceStays() {
        writes(() -> cutRename(Volumes.twoFiles(), 0, 1, 0, 3), Volume::restart, 1,
            write(Words.place(0, 2), 0));
        writes(() -> cutRename(without2(), 1, 9, 1, 50), Volume::restart, 1,
            write(Words.place(1, 7), 0));
    }

    static void double_inInode11TheLastDirectory() {
        writes(() -> cutRename(file10BesideDirectory11(), 1, 10, 11, 99), Volume::restart, 1,
            write(Words.place(11, 0), 0));
        writes(() -> cutRename(renamed(file10BesideDirectory11(), 1, 10, 11, 10), 11, 10, 1, 10),
            Volume::restart, 1, write(Words.place(11, 0), 0));
        writes(() -> cutRename(renamed(file10BesideDirectory11(), 1, 10, 11, 10), 11, 10, 11, 9),
            Volume::restart, 1, write(Words.place(11, 1), 0));
    }

    /** All INODES, with DIRECTORY 11 beside FILE 10, both in DIRECTORY 1. */
    private static Volume file10BesideDirectory11() {
        Volume v = Volumes.noInode();
        v.remove(1, 11);
        v.make(1, 11, 1);
        return v;
    }

    private static Volume renamed(Volume v, int directory, int name, int to, int other) {
        v.rename(directory, name, to, other);
        return v;
    }

    static void double_anEntryOfTheRootIsNone() {
        keeps("restart", Promise09RestartTest::theRootInDirectory1, Volume::restart, 0);
    }

    private static Volume theRootInDirectory1() {
        Volume v = Volumes.twoDirectories();
        v.lay(Words.place(1, 0), 50);
        return v;
    }

    private static Volume without2() {
        Volume v = Volumes.fullDirectory();
        v.remove(1, 2);
        return v;
    }

    static void double_orderIsByNumbersNotByTheTree() {
        writes(Promise09RestartTest::cutRenameUnderAGreaterDirectory, Volume::restart, 1,
            write(Words.place(2, 0), 0));
    }

    /** DIRECTORY 1 stands in DIRECTORY 2; FILE 3 in 2 comes into 1, deeper but ahead of it. */
    private static Volume cutRenameUnderAGreaterDirectory() {
        Volume v = Volumes.twoDirectories();
        v.rename(0, 1, 2, 9);
        return cutRename(v, 2, 5, 1, 6);
    }

    static void double_aDirectoryKeepsWhatIsInIt() {
        Volume v = cutRename(Volumes.twoDirectories(), 0, 2, 1, 7);
        due("restart", v.restart(), 1);
        due("it stands where it was", v.find(0, 2), 2);
        due("and not in 1", v.find(1, 7), NONE);
        due("its FILE", v.find(2, 5), 3);
        due("INODES", v.count(1), 4);
    }

    static void double_notDownBehindTheLastWrite() {
        Volume v = Volumes.twoDirectories();
        v.cut(2);
        due("rename", v.rename(2, 5, 1, 6), 3);
        due("restart", v.restart(), 0);
    }

    private static Volume cutRename(Volume v, int directory, int name, int to, int other) {
        v.cut(1);
        v.rename(directory, name, to, other);
        return v;
    }

    static void double_thrice_theFirstStays() {
        writes(Promise09RestartTest::file3ThreeTimes, Volume::restart, 2,
            write(Words.place(1, 7), 0), write(Words.place(2, 0), 0));
    }

    /** FILE 3 stands in THE ROOT, in DIRECTORY 1 and in DIRECTORY 2. */
    private static Volume file3ThreeTimes() {
        Volume v = Volumes.twoDirectories();
        v.lay(Words.place(0, 5), 350);
        v.lay(Words.place(1, 7), 301);
        return v;
    }

    // "2 ENTRIES, by DIRECTORIES that are INODES of that KIND, by numbers, then by PLACES: one whose INODE is
    //  of KIND 0 .. : 0"

    static void kind0_itsEntryIs0() {
        writes(Promise09RestartTest::file1OfKind0, Volume::restart, 1, write(Words.place(0, 0), 0));
    }

    private static Volume file1OfKind0() {
        Volume v = Volumes.twoFiles();
        v.lay(Words.kind(1), 0);
        return v;
    }

    static void kind0_allItsEntries_byDirectoriesThenByPlaces() {
        writes(Promise09RestartTest::inode9OfKind0InFiveEntries, Volume::restart, 5,
            write(Words.place(0, 7), 0), write(Words.place(1, 0), 0), write(Words.place(1, 6), 0),
            write(Words.place(2, 1), 0), write(Words.place(2, 7), 0));
    }

    private static Volume inode9OfKind0InFiveEntries() {
        Volume v = Volumes.twoDirectories();
        v.lay(Words.place(2, 7), 901);
        v.lay(Words.place(2, 1), 902);
        v.lay(Words.place(1, 6), 903);
        v.lay(Words.place(1, 0), 904);
        v.lay(Words.place(0, 7), 905);
        return v;
    }

    static void kind0_thePlacesOfFilesAndOfNoneAreNoEntries() {
        keeps("restart", Promise09RestartTest::placesThatLookLikeEntries, Volume::restart, 0);
    }

    /** FILE 1 and INODE 9 of KIND 0 have PLACES that would be ENTRIES of 9 and 2 in a DIRECTORY. */
    private static Volume placesThatLookLikeEntries() {
        Volume v = Volumes.twoFiles();
        v.lay(Words.place(1, 5), 950);
        v.lay(Words.place(9, 0), 950);
        v.lay(Words.place(9, 1), 202);
        return v;
    }

    // "3 INODES, by numbers, but THE ROOT, that are of no KIND 0 and stand in no ENTRY: KIND 0"

    static void nowhere_aFileThatRemoveLeft() {
        writes(() -> cutRemove(Volumes.twoFiles(), 0, 1), Volume::restart, 1, write(Words.kind(1), 0));
    }

    static void nowhere_aDirectoryThatRemoveLeft() {
        writes(() -> cutRemove(Volumes.twoDirectories(), 0, 1), Volume::restart, 1, write(Words.kind(1), 0));
    }

    static void nowhere_inode11TheLast() {
        writes(() -> cutRemove(Volumes.noInode(), 1, 11), Volume::restart, 1, write(Words.kind(11), 0));
    }

    private static Volume cutRemove(Volume v, int directory, int name) {
        v.cut(1);
        v.remove(directory, name);
        return v;
    }

    static void nowhere_whatMakeLeft() {
        for (int kind = 1; kind <= 2; kind++) {
            int made = kind;
            writes(() -> cutMake(Volumes.twoFiles(), 10, made), Volume::restart, 1, write(Words.kind(3), 0));
        }
    }

    static void nowhere_notYetBehindNineWritesOfMake() {
        for (int n = 0; n <= 9; n++) {
            Volume v = cutMake(Volumes.twoFiles(), n, 2);
            due("restart, behind " + n, v.restart(), 0);
            due("INODES", v.count(1), 3);
        }
    }

    private static Volume cutMake(Volume v, int n, int kind) {
        v.cut(n);
        v.make(0, 50, kind);
        return v;
    }

    static void nowhere_several_byNumbers() {
        writes(Promise09RestartTest::inodes3And7And11Nowhere, Volume::restart, 3,
            write(Words.kind(3), 0), write(Words.kind(7), 0), write(Words.kind(11), 0));
    }

    private static Volume inodes3And7And11Nowhere() {
        Volume v = Volumes.twoFiles();
        v.lay(Words.kind(11), 1);
        v.lay(Words.kind(3), 1);
        v.lay(Words.kind(7), 2);
        return v;
    }

    static void nowhere_butInThePlacesOfAFileOrOfNone() {
        writes(Promise09RestartTest::inode3InPlacesThatAreNoEntries, Volume::restart, 1, write(Words.kind(3), 0));
    }

    private static Volume inode3InPlacesThatAreNoEntries() {
        Volume v = placesThatLookLikeEntries();
        v.lay(Words.kind(3), 2);
        v.lay(Words.place(2, 6), 350);
        v.lay(Words.place(9, 2), 350);
        return v;
    }

    static void nowhere_isNotForTheRoot() {
        Volume v = Volumes.down(Volumes.empty());
        due("restart", v.restart(), 0);
        due("KIND", v.inode(0, 0), 1);
    }

    static void appendAndPut_leaveNothingToMend() {
        for (int n = 0; n < 5; n++) {
            Volume v = Volumes.twoFiles();
            v.cut(n);
            v.append(1, 11, 12, 13);
            long digest = v.digest();
            due("restart, behind " + n, v.restart(), 0);
            due("only DOWN has changed", v.digest(), digest - 1);
        }
    }

    // "1 THE RECORD .. 2 ENTRIES .. 3 INODES": in this order

    static void order_recordThenEntriesThenInodes() {
        writes(Promise09RestartTest::allThreeToMend, Volume::restart, 5,
            write(Words.place(2, 0), 39), write(Words.record(0), 0),
            write(Words.place(0, 3), 0), write(Words.place(0, 6), 0), write(Words.kind(5), 0));
    }

    /** A MOVE in STATE 2, an ENTRY of FILE 1 too many, one of INODE 9 of KIND 0, and FILE 5 in none. */
    private static Volume allThreeToMend() {
        Volume v = cutStep(8);
        v.lay(Words.place(0, 3), 950);
        v.lay(Words.place(0, 6), 160);
        v.lay(Words.kind(5), 2);
        return v;
    }

    // "and this again, from 2 on, till nothing is WRITTEN in a round"

    static void again_whatStoodInADirectoryThatStoodNowhere() {
        writes(Promise09RestartTest::file1InDirectory2InNone, Volume::restart, 2,
            write(Words.kind(2), 0), write(Words.kind(1), 0));
    }

    private static Volume file1InDirectory2InNone() {
        Volume v = new Volume();
        v.make(0, 1, 2);
        v.make(0, 2, 1);
        v.rename(0, 1, 2, 1);
        v.lay(Words.place(0, 1), 0);
        return v;
    }

    static void again_elevenRounds() {
        long[][] due = new long[11][];
        for (int n = 0; n < 11; n++) {
            due[n] = write(Words.kind(11 - n), 0);
        }
        writes(Promise09RestartTest::elevenInOneAnother, Volume::restart, 11, due);
    }

    /** DIRECTORIES 11 .. 1, each in the one before it, and 11 in none. */
    private static Volume elevenInOneAnother() {
        Volume v = new Volume();
        for (int d = 11; d >= 1; d--) {
            v.lay(Words.kind(d), 1);
            v.lay(Words.place(d, 7), 100 * (d - 1) + 50);
        }
        v.lay(Words.place(1, 7), 0);
        return v;
    }

    // "DOWN: POWER failed in it"

    static void down_cutAgainAndAgain_theMoveIsDoneAtLast() {
        Volume v = cutStep(4);
        for (int n = 0; n < 4; n++) {
            v.cut(n);
            due("cut behind " + n, v.restart(), DOWN);
            due("isDown", v.isDown(), 1);
            due("STATE", v.record(0), 1);
        }
        v.cut(5);
        due("cut behind the PLACE", v.restart(), DOWN);
        due("STATE", v.record(0), 2);
        v.cut(1);
        due("cut behind the PLACE again", v.restart(), DOWN);
        due("MOVES", v.count(3), 0);
        v.cut(2);
        due("two are enough", v.restart(), 2);
        due("MOVES", v.count(3), 1);
        due("isDown", v.isDown(), 0);
    }

    static void down_alsoIfTheDiskWasDownAlready() {
        Volume v = cutRemove(Volumes.twoFiles(), 0, 1);
        v.cut(0);
        due("restart", v.restart(), DOWN);
        due("KIND", v.inode(1, 0), 2);
        due("an act", v.make(0, 50, 2), DOWN);
        due("restart", v.restart(), 1);
    }

    static void down_notIfNothingIsToBeWritten() {
        Volume v = Volumes.down(Volumes.twoFiles());
        v.cut(0);
        due("restart", v.restart(), 0);
        due("isDown", v.isDown(), 0);
        due("the cut is still told", v.left(), 0);
        due("the next WRITE fails", v.put(1, 0, 0, 0), DOWN);
    }

    static void answer_doesNotCountTheWritesOfARestartThatFailed() {
        Volume v = cutStep(4);
        v.cut(4);
        v.restart();
        due("restart", v.restart(), 2);
        due("all WRITES", v.count(2), 37 + 4 + 4 + 2);
    }
}
