/** Promise 3, `int make(int directory, int name, int kind)`. */
public final class Promise03MakeTest extends TestKit {
    public static void main(String[] args) throws IllegalAccessException {
        run(Promise03MakeTest.class);
    }

    // "An INODE of KIND 1 or 2 comes into a DIRECTORY by a NAME: its number"

    static void kind_1_theLeast_isADirectory() {
        Volume v = new Volume();
        due("make", v.make(0, 5, 1), 1);
        due("KIND", v.inode(1, 0), 1);
        due("takes ENTRIES", v.make(1, 5, 1), 2);
    }

    static void kind_2_theGreatest_isAFile() {
        Volume v = new Volume();
        due("make", v.make(0, 5, 2), 1);
        due("KIND", v.inode(1, 0), 2);
        due("takes BLOCKS", v.append(1, 1, 2, 3), 1);
    }

    static void name_1_theLeast() {
        Volume v = new Volume();
        due("make", v.make(0, 1, 2), 1);
        due("ENTRY", v.inode(0, 2), 101);
    }

    static void name_99_theGreatest() {
        Volume v = new Volume();
        due("make", v.make(0, 99, 2), 1);
        due("ENTRY", v.inode(0, 2), 199);
        due("find", v.find(0, 99), 1);
    }

    static void directory_theRootAndTheGreatestInode() {
        Volume v = Volumes.deep();
        v.remove(10, 50);
        due("in 10, the 11th", v.make(10, 7, 1), 11);
        due("in THE ROOT no INODE is left", v.make(0, 7, 1), FULL);
        Volume w = Volumes.noInode();
        w.remove(1, 11);
        w.make(0, 50, 1);
        w.remove(0, 2);
        due("in 11", w.make(11, 99, 2), 2);
        due("ENTRY", w.inode(11, 2), 299);
    }

    static void sameNameInAnotherDirectoryIsNotTaken() {
        Volume v = Volumes.twoDirectories();
        due("make", v.make(1, 5, 2), 4);
        due("the other one stays", v.find(2, 5), 3);
    }

    static void entryOfInode11AndName99_isTheGreatest() {
        Volume v = Volumes.noInode();
        v.remove(1, 11);
        due("make", v.make(1, 99, 2), 11);
        due("ENTRY", v.inode(1, 6), 1199);
        due("find", v.find(1, 99), 11);
    }

    // "the least INODE of KIND 0", "the least ENTRY of the DIRECTORY that is none"

    static void leastInode_ofSeveralThatWereRemoved() {
        Volume v = Volumes.noInode();
        v.remove(1, 9);
        v.remove(0, 4);
        v.remove(1, 11);
        due("first", v.make(1, 50, 2), 4);
        due("second", v.make(1, 51, 2), 9);
        due("third", v.make(0, 52, 2), 11);
    }

    static void leastEntry_ofSeveralThatAreNone() {
        Volume v = Volumes.fullDirectory();
        v.remove(1, 9);
        v.remove(1, 5);
        v.remove(1, 2);
        v.make(1, 51, 2);
        due("PLACE 0", v.inode(1, 2), 251);
        v.make(1, 52, 2);
        due("PLACE 3", v.inode(1, 5), 552);
        v.make(1, 53, 2);
        due("PLACE 7", v.inode(1, 9), 953);
    }

    static void writes_sizePlacesKindEntry_alsoWordsThatAreSoAlready() {
        long[][] due = new long[11][];
        due[0] = write(Words.size(1), 0);
        for (int p = 0; p < 8; p++) {
            due[1 + p] = write(Words.place(1, p), 0);
        }
        due[9] = write(Words.kind(1), 1);
        due[10] = write(Words.place(0, 0), 108);
        writes(Promise03MakeTest::removedFileOfEightBlocks, v -> v.make(0, 8, 1), 1, due);
        writes(Volumes::empty, v -> v.make(0, 8, 1), 1, due);
    }

    /** INODE 1 of KIND 0, with a SIZE and PLACES that are not 0. */
    private static Volume removedFileOfEightBlocks() {
        Volume v = Volumes.eightBlocks();
        v.remove(0, 1);
        return v;
    }

    static void aFileOnARemovedOnesInodeIsEmpty() {
        Volume v = removedFileOfEightBlocks();
        due("make", v.make(0, 1, 2), 1);
        due("SIZE", v.inode(1, 1), 0);
        due("USED", v.count(0), 0);
        due("read", v.read(1, 0, 0), BAD);
    }

    // "DOWN: POWER failed in it (as with all ACTS)"

    static void down_behindTheLastWriteButOne_theInodeStandsNowhere() {
        Volume v = new Volume();
        v.cut(10);
        due("make", v.make(0, 7, 2), DOWN);
        due("INODES", v.count(1), 2);
        due("ENTRIES", v.count(5), 0);
        due("find", v.find(0, 7), NONE);
    }

    // "BAD": a number is not as told

    static void bad_name0OneTooSmall() {
        keeps("make(0, 0, 2)", Volumes::twoFiles, v -> v.make(0, 0, 2), BAD);
    }

    static void bad_name100OneTooLarge() {
        keeps("make(0, 100, 2)", Volumes::twoFiles, v -> v.make(0, 100, 2), BAD);
    }

    static void bad_namesFarOffAndWrappedAround() {
        for (int name : wrongNames(7)) {
            keeps("name " + name, Volumes::twoFiles, v -> v.make(0, name, 2), BAD);
        }
    }

    static void bad_kind0OneTooSmall() {
        keeps("make(0, 7, 0)", Volumes::twoFiles, v -> v.make(0, 7, 0), BAD);
    }

    static void bad_kind3OneTooLarge() {
        keeps("make(0, 7, 3)", Volumes::twoFiles, v -> v.make(0, 7, 3), BAD);
    }

    static void bad_kindsFarOffAndWrappedAround() {
        for (int kind : new int[] {-1, -2, 4, 5, 257, 258, 65537, 65538, MIN + 1, MIN + 2, MIN, MAX}) {
            keeps("kind " + kind, Volumes::twoFiles, v -> v.make(0, 7, kind), BAD);
        }
    }

    static void bad_directoryMinus1And12() {
        keeps("make(-1, 7, 2)", Volumes::twoFiles, v -> v.make(-1, 7, 2), BAD);
        keeps("make(12, 7, 2)", Volumes::twoFiles, v -> v.make(12, 7, 2), BAD);
    }

    static void bad_directoriesFarOffAndWrappedAround() {
        for (int d : wrongInodes(1)) {
            keeps("directory " + d, Volumes::twoDirectories, v -> v.make(d, 7, 2), BAD);
        }
        for (int d : wrongInodes(0)) {
            keeps("directory " + d, Volumes::twoDirectories, v -> v.make(d, 7, 2), BAD);
        }
    }

    // "or what is named is not of the KIND told"

    static void bad_directoryIsAFile() {
        keeps("in a FILE", Volumes::twoFiles, v -> v.make(1, 7, 2), BAD);
    }

    static void bad_directoryIsOfKind0() {
        keeps("in none", Volumes::twoFiles, v -> v.make(3, 7, 2), BAD);
        Volume v = Volumes.twoDirectories();
        v.remove(0, 1);
        due("in one that was removed", v.make(1, 7, 2), BAD);
    }

    // "TAKEN: the NAME"

    static void taken_byAFileAndByADirectory() {
        keeps("a FILE's", Volumes::twoFiles, v -> v.make(0, 2, 1), TAKEN);
        keeps("a DIRECTORY's", Volumes::twoDirectories, v -> v.make(0, 1, 2), TAKEN);
    }

    static void taken_inTheFirstAndTheLastPlace() {
        for (int name = 2; name <= 9; name++) {
            int taken = name;
            keeps("name " + name, Volumes::fullDirectory, v -> v.make(1, taken, 2), TAKEN);
        }
    }

    static void taken_noMoreBehindRemoveAndRename() {
        Volume v = Volumes.twoFiles();
        v.remove(0, 1);
        due("behind remove", v.make(0, 1, 2), 1);
        v.rename(0, 2, 0, 3);
        due("behind rename", v.make(0, 2, 2), 3);
        due("the new NAME", v.make(0, 3, 2), TAKEN);
    }

    // "FULL: no INODE, or 8 ENTRIES"

    static void full_noInode() {
        keeps("in THE ROOT", Volumes::noInode, v -> v.make(0, 50, 2), FULL);
        keeps("in a DIRECTORY", Volumes::noInode, v -> v.make(1, 50, 1), FULL);
    }

    static void full_notYetWithOneInodeLeft() {
        Volume v = Volumes.noInode();
        v.remove(1, 11);
        due("the last INODE", v.make(0, 50, 1), 11);
        due("no INODE", v.make(0, 51, 1), FULL);
        due("INODES", v.count(1), 12);
    }

    static void full_eightEntries() {
        keeps("in THE ROOT", Volumes::fullRoot, v -> v.make(0, 50, 2), FULL);
        keeps("in a DIRECTORY", Volumes::fullDirectory, v -> v.make(1, 50, 1), FULL);
        Volume v = Volumes.fullRoot();
        due("in another one there is room", v.make(2, 50, 2), 11);
    }

    static void full_eightEntries_alsoBesideWordsThatAre0() {
        keeps("in THE ROOT, INODE 1 is none", Volumes::fullRootBesideNoInode, v -> v.make(0, 50, 2), FULL);
        keeps("in INODE 11, BLOCK 0 is 0", Volumes::fullInode11, v -> v.make(11, 50, 2), FULL);
        Volume v = Volumes.fullInode11();
        due("elsewhere there is room", v.make(1, 50, 2), 10);
    }

    static void full_notYetWithSevenEntries() {
        for (int name = 2; name <= 9; name++) {
            Volume v = Volumes.fullDirectory();
            v.remove(1, name);
            due("the eighth, without " + name, v.make(1, 50, 2), name);
            due("its ENTRY", v.inode(1, name), 100 * name + 50);
            due("the ninth", v.make(1, 51, 2), FULL);
        }
    }

    // "of several the first"

    static void order_badAheadOfDown() {
        keeps("name", () -> Volumes.down(Volumes.twoFiles()), v -> v.make(0, 0, 2), BAD);
        keeps("kind", () -> Volumes.down(Volumes.twoFiles()), v -> v.make(0, 7, 3), BAD);
        keeps("directory", () -> Volumes.down(Volumes.twoFiles()), v -> v.make(12, 7, 2), BAD);
        keeps("a FILE", () -> Volumes.down(Volumes.twoFiles()), v -> v.make(1, 7, 2), BAD);
    }

    static void order_badAheadOfTaken() {
        keeps("kind", Volumes::twoFiles, v -> v.make(0, 1, 3), BAD);
    }

    static void order_badAheadOfFull() {
        keeps("name, no INODE", Volumes::noInode, v -> v.make(0, 0, 2), BAD);
        keeps("kind, no INODE", Volumes::noInode, v -> v.make(0, 50, 0), BAD);
        keeps("name, eight ENTRIES", Volumes::fullRoot, v -> v.make(0, 100, 2), BAD);
        keeps("kind, eight ENTRIES", Volumes::fullRoot, v -> v.make(0, 50, 3), BAD);
    }

    static void order_down() {
        keeps("make", () -> Volumes.down(Volumes.twoFiles()), v -> v.make(0, 7, 2), DOWN);
    }

    static void order_downAheadOfTaken() {
        keeps("make", () -> Volumes.down(Volumes.twoFiles()), v -> v.make(0, 1, 2), DOWN);
    }

    static void order_downAheadOfFull() {
        keeps("no INODE", () -> Volumes.down(Volumes.noInode()), v -> v.make(0, 50, 2), DOWN);
        keeps("eight ENTRIES", () -> Volumes.down(Volumes.fullRoot()), v -> v.make(0, 50, 2), DOWN);
    }

    static void order_takenAheadOfFull() {
        keeps("no INODE", Volumes::noInode, v -> v.make(0, 6, 2), TAKEN);
        keeps("eight ENTRIES", Volumes::fullRoot, v -> v.make(0, 8, 2), TAKEN);
    }
}
