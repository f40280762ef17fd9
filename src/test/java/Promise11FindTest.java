/** Promise 11, `int find(int directory, int name)`. */
public final class Promise11FindTest extends TestKit {
    public static void main(String[] args) throws IllegalAccessException {
        run(Promise11FindTest.class);
    }

    // "The INODE of a NAME in a DIRECTORY"

    static void names_1And99() {
        Volume v = new Volume();
        v.make(0, 1, 2);
        v.make(0, 99, 1);
        due("1", v.find(0, 1), 1);
        due("99", v.find(0, 99), 2);
    }

    static void inWhicheverPlace() {
        for (int name = 2; name <= 9; name++) {
            int there = name;
            keeps("name " + name, Volumes::fullDirectory, v -> v.find(1, there), name);
        }
    }

    static void inTheGreatestDirectory_andTheGreatestInode() {
        Volume v = Volumes.deep();
        due("in 10", v.find(10, 50), 11);
        due("in 11, an empty one", v.find(11, 50), NONE);
    }

    static void behindNoEntry_placesAheadOfItAreNone() {
        Volume v = Volumes.fullDirectory();
        for (int name = 2; name <= 8; name++) {
            v.remove(1, name);
        }
        due("PLACE 7 alone", v.find(1, 9), 9);
    }

    static void whileDown_bothNamesOfAHalfDoneRename() {
        Volume v = Volumes.twoDirectories();
        v.cut(1);
        v.rename(2, 5, 1, 6);
        due("old", v.find(2, 5), 3);
        due("new", v.find(1, 6), 3);
    }

    // "BAD"

    static void bad_name0And100() {
        keeps("name 0", Volumes::twoFiles, v -> v.find(0, 0), BAD);
        keeps("name 100", Volumes::twoFiles, v -> v.find(0, 100), BAD);
    }

    static void bad_namesFarOffAndWrappedAround() {
        for (int name : wrongNames(1)) {
            keeps("name " + name, Volumes::twoFiles, v -> v.find(0, name), BAD);
        }
    }

    static void bad_directoryMinus1And12() {
        keeps("directory -1", Volumes::twoFiles, v -> v.find(-1, 1), BAD);
        keeps("directory 12", Volumes::twoFiles, v -> v.find(12, 1), BAD);
    }

    static void bad_directoriesFarOffAndWrappedAround() {
        for (int d : wrongInodes(2)) {
            keeps("directory " + d, Volumes::twoDirectories, v -> v.find(d, 5), BAD);
        }
    }

    static void bad_directoryIsAFileOrOfKind0() {
        keeps("a FILE", Volumes::twoFiles, v -> v.find(1, 1), BAD);
        keeps("none", Volumes::twoFiles, v -> v.find(3, 1), BAD);
        Volume v = Volumes.twoDirectories();
        v.remove(0, 1);
        due("one that was removed", v.find(1, 5), BAD);
    }

    // "NONE"

    static void none_inAnEmptyDirectory() {
        keeps("find", Volumes::empty, v -> v.find(0, 1), NONE);
        keeps("find", Volumes::twoDirectories, v -> v.find(1, 5), NONE);
    }

    static void none_besideNamesThatAreThere() {
        keeps("one less", Volumes::fullDirectory, v -> v.find(1, 1), NONE);
        keeps("one more", Volumes::fullDirectory, v -> v.find(1, 10), NONE);
    }

    static void none_anotherDirectorysName() {
        keeps("deeper", Volumes::twoDirectories, v -> v.find(0, 5), NONE);
        keeps("above", Volumes::twoDirectories, v -> v.find(2, 2), NONE);
    }

    static void none_behindRemoveAndRename() {
        Volume v = Volumes.twoFiles();
        v.remove(0, 1);
        due("behind remove", v.find(0, 1), NONE);
        v.rename(0, 2, 0, 3);
        due("behind rename", v.find(0, 2), NONE);
    }

    static void none_ofAFileThatMakeLeftWithoutAnEntry() {
        Volume v = new Volume();
        v.cut(10);
        v.make(0, 7, 2);
        due("find", v.find(0, 7), NONE);
    }

    static void order_badAheadOfNone() {
        keeps("name", Volumes::empty, v -> v.find(0, 0), BAD);
        keeps("directory", Volumes::empty, v -> v.find(1, 1), BAD);
    }
}
