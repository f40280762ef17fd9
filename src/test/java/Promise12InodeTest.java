/** Promise 12, `int inode(int i, int what)`. */
public final class Promise12InodeTest extends TestKit {
    public static void main(String[] args) throws IllegalAccessException {
        run(Promise12InodeTest.class);
    }

    // "Of an INODE: 0 its KIND, 1 its SIZE, 2 .. 9 its PLACES"

    static void what_0TheLeast_kind() {
        keeps("of THE ROOT", Volumes::twoFiles, v -> v.inode(0, 0), 1);
        keeps("of a FILE", Volumes::twoFiles, v -> v.inode(1, 0), 2);
        keeps("of none", Volumes::twoFiles, v -> v.inode(3, 0), 0);
    }

    static void what_1_size() {
        keeps("of a FILE", Volumes::twoFiles, v -> v.inode(1, 1), 2);
        keeps("of eight BLOCKS", Volumes::eightBlocks, v -> v.inode(1, 1), 8);
        keeps("of a DIRECTORY", Volumes::twoFiles, v -> v.inode(0, 1), 0);
    }

    static void what_2To9_places_9TheGreatest() {
        for (int what = 2; what <= 9; what++) {
            int place = what;
            keeps("of a FILE", Volumes::eightBlocks, v -> v.inode(1, place), what - 2);
            keeps("of a DIRECTORY", Volumes::fullDirectory, v -> v.inode(1, place), 101 * what);
        }
    }

    static void i_0And11() {
        Volume v = Volumes.noInode();
        due("THE ROOT", v.inode(0, 0), 1);
        due("11", v.inode(11, 0), 2);
        for (int n = 0; n < 8; n++) {
            v.append(11, 0, 0, 0);
        }
        due("PLACE 7 of 11", v.inode(11, 9), 8);
    }

    static void kind0_theOtherWordsStayAsTheyAre() {
        Volume v = Volumes.eightBlocks();
        v.remove(0, 1);
        due("KIND", v.inode(1, 0), 0);
        due("SIZE", v.inode(1, 1), 8);
        due("PLACE 7", v.inode(1, 9), 7);
    }

    // "BAD"

    static void bad_iMinus1And12() {
        for (int what = 0; what <= 9; what++) {
            int any = what;
            keeps("i -1", Volumes::twoFiles, v -> v.inode(-1, any), BAD);
            keeps("i 12", Volumes::twoFiles, v -> v.inode(12, any), BAD);
        }
    }

    static void bad_whatMinus1And10() {
        for (int i = 0; i <= 11; i++) {
            int any = i;
            keeps("what -1", Volumes::twoFiles, v -> v.inode(any, -1), BAD);
            keeps("what 10", Volumes::twoFiles, v -> v.inode(any, 10), BAD);
        }
    }

    static void bad_whatIsNotTakenFromTheInodeBeside() {
        keeps("10 of THE ROOT is not KIND of 1", Volumes::twoFiles, v -> v.inode(0, 10), BAD);
        keeps("-10 of 1 is not KIND of THE ROOT", Volumes::twoFiles, v -> v.inode(1, -10), BAD);
        keeps("10 of -1 is not KIND of THE ROOT", Volumes::twoFiles, v -> v.inode(-1, 10), BAD);
    }

    static void bad_farOffAndWrappedAround() {
        for (int i : wrongInodes(1)) {
            keeps("i " + i, Volumes::twoFiles, v -> v.inode(i, 0), BAD);
        }
        for (int what : wrongNumbers(9, 1)) {
            keeps("what " + what, Volumes::twoFiles, v -> v.inode(1, what), BAD);
        }
        keeps("both", Volumes::twoFiles, v -> v.inode(MAX, MAX), BAD);
        keeps("both", Volumes::twoFiles, v -> v.inode(MIN, MIN), BAD);
    }

    static void whileDown_theWordsAsTheyAre() {
        Volume v = Volumes.twoFiles();
        v.cut(4);
        v.append(2, 1, 1, 1);
        due("PLACE 1", v.inode(2, 3), 3);
        due("SIZE", v.inode(2, 1), 1);
        due("BAD", v.inode(2, 10), BAD);
    }
}
