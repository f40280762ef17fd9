/** Promise 20, `long tree()`. */
public final class Promise20TreeTest extends TestKit {
    public static void main(String[] args) throws IllegalAccessException {
        run(Promise20TreeTest.class);
    }

    /** h, being 5 first, over a row of numbers. */
    private static long over(long... row) {
        long h = 5;
        for (long v : row) {
            h = 31 * h + v;
        }
        return h;
    }

    // "a DIRECTORY: h = 31 h + 1, .. at its end h = 31 h + 9. .. Of THE ROOT, h being 5 first."

    static void empty_theRootAlone() {
        keeps("tree", Volumes::empty, Volume::tree, (5 * 31 + 1) * 31 + 9);
    }

    static void empty_aDirectoryInTheRoot() {
        Volume v = new Volume();
        v.make(0, 99, 1);
        due("tree", v.tree(), over(1, 99, 1, 9, 9));
    }

    // "A FILE: h = 31 h + 2, h = 31 h + its SIZE, and of each of its BLOCKS, in order, of DATA 0 .. 2"

    static void empty_aFileOfSize0() {
        Volume v = new Volume();
        v.make(0, 1, 2);
        due("tree", v.tree(), over(1, 1, 2, 0, 9));
    }

    static void file_blocksInOrderOfPlaces() {
        keeps("tree", Volumes::twoFiles, Volume::tree,
            over(1, 1, 2, 2, 1, 2, 3, 7, 8, 9, 2, 2, 1, 4, 5, 6, 9));
    }

    static void file_ofEightBlocks() {
        keeps("tree", Volumes::eightBlocks, Volume::tree,
            over(1, 1, 2, 8, 10, 20, 30, 11, 21, 31, 12, 22, 32, 13, 23, 33, 14, 24, 34, 15, 25, 35,
                16, 26, 36, 17, 27, 37, 9));
    }

    static void file_aPlaceAtTheSizeIsNoBlock() {
        Volume v = Volumes.twoFiles();
        long tree = v.tree();
        v.cut(4);
        v.append(2, 11, 12, 13);
        due("its PLACE", v.inode(2, 3), 3);
        due("tree", v.tree(), tree);
    }

    static void wrapsAround_withTheLeastAndTheGreatestLong() {
        Volume v = new Volume();
        v.make(0, 7, 2);
        v.append(1, Long.MAX_VALUE, Long.MIN_VALUE, -1);
        v.append(1, Long.MAX_VALUE, Long.MAX_VALUE, Long.MAX_VALUE);
        due("tree", v.tree(), over(1, 7, 2, 2, Long.MAX_VALUE, Long.MIN_VALUE, -1,
            Long.MAX_VALUE, Long.MAX_VALUE, Long.MAX_VALUE, 9));
    }

    // "then of each ENTRY, by NAMES, h = 31 h + the NAME, and of what it is so"

    static void byNames_notByPlacesOrInodes() {
        Volume v = new Volume();
        v.make(0, 99, 2);
        v.make(0, 1, 1);
        v.make(0, 50, 2);
        v.append(1, 7, 8, 9);
        due("tree", v.tree(), over(1, 1, 1, 9, 50, 2, 0, 99, 2, 1, 7, 8, 9, 9));
    }

    static void byNames_eightEntriesDownward() {
        Volume v = new Volume();
        for (int n = 8; n >= 1; n--) {
            v.make(0, 10 * n, 2);
        }
        due("tree", v.tree(), over(1, 10, 2, 0, 20, 2, 0, 30, 2, 0, 40, 2, 0, 50, 2, 0, 60, 2, 0,
            70, 2, 0, 80, 2, 0, 9));
    }

    static void byNames_inADirectoryBelow() {
        Volume v = new Volume();
        v.make(0, 4, 1);
        v.make(1, 30, 2);
        v.make(1, 20, 1);
        v.make(0, 9, 2);
        due("tree", v.tree(), over(1, 4, 1, 20, 1, 9, 30, 2, 0, 9, 9, 2, 0, 9));
    }

    static void byNames_inDirectoriesWhoseNumbersAreNotTheirDepth() {
        Volume v = new Volume();
        v.make(0, 60, 1);
        v.make(0, 40, 1);
        v.make(2, 9, 2);
        v.make(2, 8, 1);
        v.make(4, 7, 2);
        v.make(4, 3, 2);
        v.make(1, 5, 2);
        v.make(1, 2, 2);
        due("tree", v.tree(), over(1, 40, 1, 8, 1, 3, 2, 0, 7, 2, 0, 9, 9, 2, 0, 9,
            60, 1, 2, 2, 0, 5, 2, 0, 9, 9));
    }

    static void aNameIsPartOfIt() {
        Volume v = Volumes.twoFiles();
        v.rename(0, 2, 0, 3);
        due("tree", v.tree(), over(1, 1, 2, 2, 1, 2, 3, 7, 8, 9, 3, 2, 1, 4, 5, 6, 9));
    }

    static void elevenDeep() {
        long h = 5;
        for (int d = 0; d < 11; d++) {
            h = (31 * h + 1) * 31 + 50;
        }
        h = 31 * h + 1;
        for (int d = 0; d < 12; d++) {
            h = 31 * h + 9;
        }
        keeps("tree", Volumes::deep, Volume::tree, h);
    }

    static void staysUnderMovesAndRestarts() {
        Volume v = Volumes.blocksInTurns(12);
        long tree = v.tree();
        for (int n = 0; n < 12; n++) {
            v.cut(n);
            v.step();
            due("behind a step", v.tree(), tree);
            v.cut(NONE);
            v.restart();
            due("behind a restart", v.tree(), tree);
        }
    }

    // "An ENTRY counts only if its INODE is not of KIND 0, and the first time that the INODE is come to"

    static void firstTime_ofTwoNamesInOneDirectory() {
        Volume v = Volumes.twoFiles();
        v.cut(1);
        v.rename(0, 2, 0, 99);
        due("2 is ahead of 99", v.tree(), over(1, 1, 2, 2, 1, 2, 3, 7, 8, 9, 2, 2, 1, 4, 5, 6, 9));
        Volume w = Volumes.twoFiles();
        w.rename(0, 2, 0, 50);
        w.cut(1);
        w.rename(0, 50, 0, 3);
        due("3 is ahead of 50", w.tree(), over(1, 1, 2, 2, 1, 2, 3, 7, 8, 9, 3, 2, 1, 4, 5, 6, 9));
        w.restart();
        due("mended, the lesser PLACE stays", w.tree(),
            over(1, 1, 2, 2, 1, 2, 3, 7, 8, 9, 3, 2, 1, 4, 5, 6, 9));
    }

    static void firstTime_inADirectoryThatIsComeToEarlier() {
        Volume v = Volumes.twoDirectories();
        v.rename(2, 5, 0, 50);
        v.cut(1);
        v.rename(0, 50, 2, 8);
        due("in 2, ahead of THE ROOT's own", v.tree(), over(1, 1, 1, 9, 2, 1, 8, 2, 1, 1, 2, 3, 9, 9));
        v.restart();
        due("mended, THE ROOT's stays", v.tree(), over(1, 1, 1, 9, 2, 1, 9, 50, 2, 1, 1, 2, 3, 9));
    }

    static void firstTime_aDirectoryThatStandsTwice() {
        Volume v = Volumes.twoDirectories();
        v.cut(1);
        v.rename(0, 2, 1, 7);
        due("in 1", v.tree(), over(1, 1, 1, 7, 1, 5, 2, 1, 1, 2, 3, 9, 9, 9));
        v.restart();
        due("mended", v.tree(), over(1, 1, 1, 9, 2, 1, 5, 2, 1, 1, 2, 3, 9, 9));
    }

    static void firstTime_directoriesThatStandInOneAnother() {
        Volume v = Volumes.twoDirectories();
        v.rename(0, 2, 1, 7);
        v.lay(Words.place(2, 1), 103);
        v.lay(Words.place(2, 2), 204);
        due("tree", v.tree(), over(1, 1, 1, 7, 1, 5, 2, 1, 1, 2, 3, 9, 9, 9));
    }

    static void firstTime_theRootIsComeToFirst() {
        Volume v = Volumes.twoDirectories();
        long tree = v.tree();
        v.lay(Words.place(1, 0), 50);
        due("tree", v.tree(), tree);
    }

    static void kind0_anEntryOfItDoesNotCount() {
        Volume v = Volumes.twoFiles();
        v.lay(Words.kind(1), 0);
        due("the first", v.tree(), over(1, 2, 2, 1, 4, 5, 6, 9));
        Volume w = Volumes.twoDirectories();
        w.lay(Words.kind(3), 0);
        due("the only one", w.tree(), over(1, 1, 1, 9, 2, 1, 9, 9));
    }

    static void whatStandsInNoEntryIsNotInIt() {
        Volume v = Volumes.twoFiles();
        v.cut(1);
        v.remove(0, 1);
        due("a FILE that remove left", v.tree(), over(1, 2, 2, 1, 4, 5, 6, 9));
        Volume w = Volumes.twoFiles();
        long tree = w.tree();
        w.cut(10);
        w.make(0, 50, 1);
        due("a DIRECTORY that make left", w.tree(), tree);
    }

    static void theSameTwice() {
        Volume v = Volumes.twoDirectories();
        due("again", v.tree() - v.tree(), 0);
    }
}
