/** Promise 7, `int rename(int directory, int name, int to, int other)`. */
public final class Promise07RenameTest extends TestKit {
    public static void main(String[] args) throws IllegalAccessException {
        run(Promise07RenameTest.class);
    }

    // "What a NAME in a DIRECTORY is comes into another one (or the same) by another NAME: its INODE"

    static void intoAnotherDirectory() {
        Volume v = Volumes.twoDirectories();
        due("rename", v.rename(2, 5, 1, 6), 3);
        due("old", v.find(2, 5), NONE);
        due("new", v.find(1, 6), 3);
        due("its DATA", v.readOf(3, 0, 2), 3);
    }

    static void intoAnotherDirectory_bySameName() {
        Volume v = Volumes.twoDirectories();
        due("rename", v.rename(2, 5, 0, 5), 3);
        due("old", v.find(2, 5), NONE);
        due("new", v.find(0, 5), 3);
    }

    static void intoTheSameDirectory() {
        Volume v = Volumes.twoFiles();
        due("rename", v.rename(0, 1, 0, 50), 1);
        due("old", v.find(0, 1), NONE);
        due("new", v.find(0, 50), 1);
        due("ENTRIES", v.count(5), 2);
    }

    static void names_1And99() {
        Volume v = Volumes.twoFiles();
        due("to 99", v.rename(0, 1, 0, 99), 1);
        due("to 1", v.rename(0, 99, 0, 1), 1);
        due("from 2 to 99", v.rename(0, 2, 0, 99), 2);
    }

    static void aDirectoryTakesWithItWhatIsInIt() {
        Volume v = Volumes.twoDirectories();
        due("rename", v.rename(0, 2, 1, 9), 2);
        due("still in it", v.find(2, 5), 3);
        due("THE ROOT", v.find(0, 2), NONE);
    }

    // "the least ENTRY of the other DIRECTORY that is none (as it is ahead of it all); the old ENTRY 0"

    static void writes_newEntryThenOld() {
        writes(Volumes::twoDirectories, v -> v.rename(2, 5, 1, 6), 3,
            write(Words.place(1, 0), 306), write(Words.place(2, 0), 0));
        writes(Volumes::twoDirectories, v -> v.rename(0, 1, 2, 99), 1,
            write(Words.place(2, 1), 199), write(Words.place(0, 0), 0));
    }

    static void writes_inTheSameDirectory_asItIsAheadOfItAll() {
        writes(Volumes::twoFiles, v -> v.rename(0, 1, 0, 3), 1,
            write(Words.place(0, 2), 103), write(Words.place(0, 0), 0));
    }

    static void leastEntry_ofSeveralThatAreNone() {
        writes(() -> without(3, 6, 9), v -> v.rename(1, 2, 1, 50), 2,
            write(Words.place(1, 1), 250), write(Words.place(1, 0), 0));
        writes(() -> without(6, 9), v -> v.rename(1, 8, 1, 50), 8,
            write(Words.place(1, 4), 850), write(Words.place(1, 6), 0));
        writes(() -> without(9), v -> v.rename(1, 8, 1, 50), 8,
            write(Words.place(1, 7), 850), write(Words.place(1, 6), 0));
    }

    private static Volume without(int... names) {
        Volume v = Volumes.fullDirectory();
        for (int name : names) {
            v.remove(1, name);
        }
        return v;
    }

    // "BAD"

    static void bad_name0And100() {
        keeps("name 0", Volumes::twoFiles, v -> v.rename(0, 0, 0, 50), BAD);
        keeps("name 100", Volumes::twoFiles, v -> v.rename(0, 100, 0, 50), BAD);
        keeps("other 0", Volumes::twoFiles, v -> v.rename(0, 1, 0, 0), BAD);
        keeps("other 100", Volumes::twoFiles, v -> v.rename(0, 1, 0, 100), BAD);
    }

    static void bad_namesFarOffAndWrappedAround() {
        for (int name : wrongNames(1)) {
            keeps("name " + name, Volumes::twoFiles, v -> v.rename(0, name, 0, 50), BAD);
            keeps("other " + name, Volumes::twoFiles, v -> v.rename(0, 1, 0, name), BAD);
        }
    }

    static void bad_directoriesMinus1And12() {
        keeps("directory -1", Volumes::twoFiles, v -> v.rename(-1, 1, 0, 50), BAD);
        keeps("directory 12", Volumes::twoFiles, v -> v.rename(12, 1, 0, 50), BAD);
        keeps("to -1", Volumes::twoFiles, v -> v.rename(0, 1, -1, 50), BAD);
        keeps("to 12", Volumes::twoFiles, v -> v.rename(0, 1, 12, 50), BAD);
    }

    static void bad_directoriesFarOffAndWrappedAround() {
        for (int d : wrongInodes(2)) {
            keeps("directory " + d, Volumes::twoDirectories, v -> v.rename(d, 5, 1, 50), BAD);
        }
        for (int d : wrongInodes(1)) {
            keeps("to " + d, Volumes::twoDirectories, v -> v.rename(2, 5, d, 50), BAD);
        }
    }

    static void bad_directoryIsAFileOrOfKind0() {
        keeps("from a FILE", Volumes::twoFiles, v -> v.rename(1, 1, 0, 50), BAD);
        keeps("from none", Volumes::twoFiles, v -> v.rename(3, 1, 0, 50), BAD);
        keeps("to a FILE", Volumes::twoFiles, v -> v.rename(0, 1, 2, 50), BAD);
        keeps("to itself, a FILE", Volumes::twoFiles, v -> v.rename(0, 1, 1, 50), BAD);
        keeps("to none", Volumes::twoFiles, v -> v.rename(0, 1, 3, 50), BAD);
    }

    // "NONE": "there is no such NAME"

    static void none_noSuchName() {
        keeps("in THE ROOT", Volumes::twoFiles, v -> v.rename(0, 3, 0, 50), NONE);
        keeps("in an empty one", Volumes::twoDirectories, v -> v.rename(1, 5, 0, 50), NONE);
        keeps("the other NAME, but not here", Volumes::twoDirectories, v -> v.rename(0, 5, 1, 50), NONE);
    }

    static void none_theSecondTime() {
        Volume v = Volumes.twoFiles();
        v.rename(0, 1, 0, 50);
        due("again", v.rename(0, 1, 0, 51), NONE);
    }

    // "TAKEN: the other NAME is there"

    static void taken_byAnother() {
        keeps("in the same", Volumes::twoFiles, v -> v.rename(0, 1, 0, 2), TAKEN);
        keeps("in another", Volumes::twoDirectories, v -> v.rename(2, 5, 0, 1), TAKEN);
    }

    static void taken_byItself() {
        keeps("its own NAME", Volumes::twoFiles, v -> v.rename(0, 1, 0, 1), TAKEN);
    }

    static void taken_inWhicheverPlace() {
        for (int name = 2; name <= 9; name++) {
            int other = name;
            keeps("other " + name, () -> plusFile(Volumes.fullDirectory()), v -> v.rename(0, 60, 1, other), TAKEN);
        }
    }

    /** One more FILE in THE ROOT by NAME 60, INODE 10 in a full directory's volume. */
    private static Volume plusFile(Volume v) {
        v.make(0, 60, 2);
        return v;
    }

    static void taken_isNotForTheSameNameInTheOldDirectory() {
        Volume v = Volumes.twoDirectories();
        due("rename", v.rename(2, 5, 1, 2), 3);
    }

    // "FULL: 8 ENTRIES"

    static void full_theOtherHasEight() {
        keeps("rename", () -> plusFile(Volumes.fullDirectory()), v -> v.rename(0, 60, 1, 50), FULL);
        keeps("into THE ROOT", Volumes::fullRoot, v -> v.rename(1, 10, 0, 50), FULL);
    }

    static void full_theSameHasEight() {
        keeps("rename", Volumes::fullDirectory, v -> v.rename(1, 2, 1, 50), FULL);
        keeps("in THE ROOT", Volumes::fullRoot, v -> v.rename(0, 8, 0, 50), FULL);
    }

    static void full_eight_alsoBesideWordsThatAre0() {
        keeps("in THE ROOT, INODE 1 is none", Volumes::fullRootBesideNoInode, v -> v.rename(0, 2, 0, 50), FULL);
        keeps("in INODE 11, BLOCK 0 is 0", Volumes::fullInode11, v -> v.rename(11, 2, 11, 50), FULL);
    }

    static void full_notYetWithSeven() {
        for (int name = 2; name <= 9; name++) {
            Volume v = plusFile(without(name));
            due("rename without " + name, v.rename(0, 60, 1, 50), name);
            due("its ENTRY", v.inode(1, name), 100 * name + 50);
        }
        Volume same = without(9);
        due("in the same", same.rename(1, 2, 1, 50), 2);
    }

    static void full_theOldOneMayHaveEight() {
        Volume v = Volumes.fullDirectory();
        due("rename", v.rename(1, 9, 0, 9), 9);
    }

    // "NO: it is a DIRECTORY in which the other one is, at whatever depth, or it itself"

    static void no_itItself() {
        keeps("rename", Volumes::twoDirectories, v -> v.rename(0, 1, 1, 50), NO);
    }

    static void no_atWhateverDepth() {
        for (int to = 1; to <= 10; to++) {
            int below = to;
            keeps("1 into " + to, Volumes::deep, v -> v.rename(0, 50, below, 60), NO);
            if (to >= 5) {
                keeps("5 into " + to, Volumes::deep, v -> v.rename(4, 50, below, 60), NO);
            }
        }
        keeps("1 into 11", Volumes::deep, v -> v.rename(0, 50, 11, 60), NO);
        keeps("11 into itself", Volumes::deep, v -> v.rename(10, 50, 11, 60), NO);
    }

    static void no_isNotForOneAboveOrBeside() {
        for (int to = 0; to <= 10; to++) {
            Volume v = Volumes.deep();
            due("11 into " + to, v.rename(10, 50, to, 60), 11);
        }
        Volume beside = Volumes.twoDirectories();
        due("2 into 1", beside.rename(0, 2, 1, 50), 2);
        due("1 into 2, now in it", beside.rename(0, 1, 2, 50), NO);
        due("2 up again", beside.rename(1, 50, 0, 2), 2);
        due("1 into 2", beside.rename(0, 1, 2, 50), 1);
    }

    static void no_isNotForOneBeside_whereTheRootIsFull() {
        Volume v = Volumes.fullRoot();
        due("1 into 2", v.rename(0, 1, 2, 50), 1);
        Volume w = Volumes.fullRoot();
        due("2 into 9, in 1", w.rename(0, 2, 9, 50), 2);
    }

    static void no_isNotForOneBeside_whereInode1IsNone() {
        Volume v = new Volume();
        v.make(0, 1, 2);
        v.make(0, 2, 1);
        v.make(0, 3, 2);
        v.make(0, 4, 1);
        v.remove(0, 1);
        due("2 into 4", v.rename(0, 2, 4, 50), 2);
    }

    static void no_isNotForAFile() {
        Volume v = Volumes.fullRoot();
        due("a FILE beside it", v.rename(0, 3, 1, 50), 3);
        due("deeper", v.rename(1, 50, 9, 50), 3);
    }

    static void no_inWhicheverPlaceTheOtherStands() {
        for (int kept = 0; kept < 8; kept++) {
            int last = kept;
            keeps("PLACE " + kept, () -> directoryInPlace(last), v -> v.rename(0, 1, last + 2, 60), NO);
        }
    }

    /** DIRECTORY 1 with eight ENTRIES, DIRECTORY p + 2 in PLACE p of it, and no ENTRY in that. */
    private static Volume directoryInPlace(int p) {
        Volume v = new Volume();
        v.make(0, 1, 1);
        for (int n = 0; n < 8; n++) {
            v.make(1, n + 2, n == p ? 1 : 2);
        }
        return v;
    }

    // "of several the first"

    static void order_badAheadOfDown() {
        keeps("name", () -> Volumes.down(Volumes.twoFiles()), v -> v.rename(0, 0, 0, 50), BAD);
        keeps("other", () -> Volumes.down(Volumes.twoFiles()), v -> v.rename(0, 1, 0, 100), BAD);
        keeps("directory", () -> Volumes.down(Volumes.twoFiles()), v -> v.rename(1, 1, 0, 50), BAD);
        keeps("to", () -> Volumes.down(Volumes.twoFiles()), v -> v.rename(0, 1, 2, 50), BAD);
    }

    static void order_badAheadOfNone() {
        keeps("other", Volumes::twoFiles, v -> v.rename(0, 3, 0, 0), BAD);
        keeps("to", Volumes::twoFiles, v -> v.rename(0, 3, 1, 50), BAD);
    }

    static void order_badAheadOfTaken() {
        keeps("name", Volumes::twoFiles, v -> v.rename(0, 0, 0, 2), BAD);
    }

    static void order_badAheadOfFull() {
        keeps("name", Volumes::fullRoot, v -> v.rename(1, 0, 0, 50), BAD);
        keeps("other", Volumes::fullRoot, v -> v.rename(1, 10, 0, 0), BAD);
    }

    static void order_badAheadOfNo() {
        keeps("other", Volumes::twoDirectories, v -> v.rename(0, 1, 1, 0), BAD);
    }

    static void order_down() {
        keeps("rename", () -> Volumes.down(Volumes.twoFiles()), v -> v.rename(0, 1, 0, 50), DOWN);
    }

    static void order_downAheadOfNone() {
        keeps("rename", () -> Volumes.down(Volumes.twoFiles()), v -> v.rename(0, 3, 0, 50), DOWN);
    }

    static void order_downAheadOfTaken() {
        keeps("rename", () -> Volumes.down(Volumes.twoFiles()), v -> v.rename(0, 1, 0, 2), DOWN);
    }

    static void order_downAheadOfFull() {
        keeps("rename", () -> Volumes.down(Volumes.fullRoot()), v -> v.rename(1, 10, 0, 50), DOWN);
    }

    static void order_downAheadOfNo() {
        keeps("rename", () -> Volumes.down(Volumes.twoDirectories()), v -> v.rename(0, 1, 1, 50), DOWN);
    }

    static void order_noneAheadOfTaken() {
        keeps("rename", Volumes::twoFiles, v -> v.rename(0, 3, 0, 2), NONE);
    }

    static void order_noneAheadOfFull() {
        keeps("rename", Volumes::fullRoot, v -> v.rename(1, 50, 0, 60), NONE);
    }

    static void order_takenAheadOfFull() {
        keeps("rename", Volumes::fullRoot, v -> v.rename(1, 10, 0, 8), TAKEN);
        keeps("in the same", Volumes::fullRoot, v -> v.rename(0, 7, 0, 8), TAKEN);
    }

    static void order_takenAheadOfNo() {
        keeps("rename", Volumes::fullRoot, v -> v.rename(0, 1, 1, 10), TAKEN);
    }

    static void order_fullAheadOfNo() {
        keeps("rename", Volumes::fullDirectory, v -> v.rename(0, 1, 1, 50), FULL);
    }
}
