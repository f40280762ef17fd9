/** Promise 18, `int runs(int file)`. */
public final class Promise18RunsTest extends TestKit {
    public static void main(String[] args) throws IllegalAccessException {
        run(Promise18RunsTest.class);
    }

    // "How many runs of BLOCKS, each one behind the one before it, a FILE has"

    static void zero_anEmptyFile() {
        keeps("runs", Volumes::noBlockInOrder, v -> v.runs(6), 0);
    }

    static void one_aSingleBlock() {
        for (int file = 1; file <= 5; file++) {
            int any = file;
            keeps("BLOCK " + (file - 1), () -> Volumes.blocksInTurns(5), v -> v.runs(any), 1);
        }
    }

    static void one_eightBlocksInOrder() {
        keeps("runs", Volumes::eightBlocks, v -> v.runs(1), 1);
        keeps("BLOCKS 32 .. 39", Volumes::noBlockInOrder, v -> v.runs(5), 1);
    }

    static void two_aGapOfOne() {
        keeps("runs", Volumes::twoFiles, v -> v.runs(1), 2);
    }

    static void eight_allApart() {
        keeps("runs", Volumes::noBlockInTurns, v -> v.runs(1), 8);
        keeps("runs", Volumes::noBlockInTurns, v -> v.runs(5), 8);
    }

    static void theLastBlockGoesOnOrDoesNot() {
        Volume v = Volumes.twoFiles();
        v.append(1, 0, 0, 0);
        due("0, 2, 3", v.runs(1), 2);
        v.append(2, 0, 0, 0);
        v.append(1, 0, 0, 0);
        due("0, 2, 3, 5", v.runs(1), 3);
    }

    static void oneBeforeIsNoRun() {
        Volume v = new Volume();
        for (int f = 1; f <= 3; f++) {
            v.make(0, f, 2);
        }
        v.append(3, 3, 3, 3);
        v.append(1, 1, 1, 1);
        v.remove(0, 3);
        v.append(1, 1, 1, 1);
        due("BLOCKS", 10 * v.inode(1, 2) + v.inode(1, 3), 10);
        due("1, 0", v.runs(1), 2);
    }

    static void from39To0IsNoRun() {
        Volume v = new Volume();
        v.make(0, 1, 2);
        v.make(0, 2, 2);
        v.append(2, 2, 2, 2);
        v.append(1, 1, 1, 1);
        v.step();
        v.append(2, 3, 3, 3);
        due("BLOCKS", 100 * v.inode(2, 2) + v.inode(2, 3), 3900);
        due("39, 0", v.runs(2), 2);
    }

    static void aPlaceAtTheSizeIsNoBlock() {
        Volume v = Volumes.twoFiles();
        v.cut(4);
        v.append(2, 11, 12, 13);
        due("its PLACE", v.inode(2, 3), 3);
        due("runs", v.runs(2), 1);
    }

    static void aBlock0IsARun() {
        Volume v = new Volume();
        v.make(0, 1, 2);
        v.append(1, 0, 0, 0);
        due("BLOCK", v.inode(1, 2), 0);
        due("runs", v.runs(1), 1);
    }

    static void inode11() {
        Volume v = Volumes.noInode();
        due("none", v.runs(11), 0);
        v.append(11, 0, 0, 0);
        due("one", v.runs(11), 1);
    }

    static void whileDown_too() {
        keeps("runs", () -> Volumes.down(Volumes.twoFiles()), v -> v.runs(1), 2);
    }

    // "BAD"

    static void bad_fileMinus1And12() {
        keeps("runs(-1)", Volumes::twoFiles, v -> v.runs(-1), BAD);
        keeps("runs(12)", Volumes::twoFiles, v -> v.runs(12), BAD);
    }

    static void bad_filesFarOffAndWrappedAround() {
        for (int file : wrongInodes(1)) {
            keeps("runs(" + file + ")", Volumes::twoFiles, v -> v.runs(file), BAD);
        }
    }

    static void bad_fileIsADirectoryOrOfKind0() {
        keeps("THE ROOT", Volumes::twoFiles, v -> v.runs(0), BAD);
        keeps("another DIRECTORY", Volumes::twoDirectories, v -> v.runs(1), BAD);
        keeps("none", Volumes::twoFiles, v -> v.runs(3), BAD);
        Volume v = Volumes.twoFiles();
        v.remove(0, 1);
        due("one that was removed", v.runs(1), BAD);
    }
}
