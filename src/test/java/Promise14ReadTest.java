/** Promise 14, `int read(int file, int p, int k)`. */
public final class Promise14ReadTest extends TestKit {
    public static void main(String[] args) throws IllegalAccessException {
        run(Promise14ReadTest.class);
    }

    // "DATA k of BLOCK p of a FILE is ASKED for: 1"

    static void p_0And7_k_0To2() {
        Volume v = Volumes.eightBlocks();
        for (int k = 0; k <= 2; k++) {
            due("read", v.read(1, 0, k), 1);
            due("asked", v.asked(), 10 + 10 * k);
            due("read", v.read(1, 7, k), 1);
            due("asked", v.asked(), 17 + 10 * k);
        }
    }

    static void p_isThePlaceAndNotTheBlock() {
        Volume v = Volumes.twoFiles();
        due("BLOCK 2", v.readOf(1, 1, 0), 7);
        due("BLOCK 1", v.readOf(2, 0, 0), 4);
    }

    static void inode11AndBlock39() {
        Volume v = Volumes.noBlockInOrder();
        due("BLOCK 39", v.readOf(5, 7, 2), 240);
        Volume w = Volumes.noInode();
        w.append(11, 5, 6, 7);
        due("INODE 11", w.readOf(11, 0, 2), 7);
    }

    static void theSameBehindMoves() {
        Volume v = Volumes.twoFiles();
        while (v.step() == 1) {
            due("1 0 0", v.readOf(1, 0, 0), 1);
            due("1 1 1", v.readOf(1, 1, 1), 8);
            due("2 0 2", v.readOf(2, 0, 2), 6);
        }
    }

    static void changesNothingButWhatIsAsked() {
        Volume v = Volumes.twoFiles();
        long digest = v.digest();
        v.read(1, 1, 2);
        due("digest", v.digest(), digest);
        due("WRITES", v.count(2), 37);
    }

    static void whileDown_too() {
        Volume v = Volumes.down(Volumes.twoFiles());
        due("read", v.read(1, 1, 1), 1);
        due("asked", v.asked(), 8);
        due("BAD", v.read(1, 2, 1), BAD);
    }

    // "BAD"

    static void bad_pMinus1OneTooSmall() {
        keeps("p -1", Volumes::twoFiles, v -> v.read(1, -1, 0), BAD);
    }

    static void bad_pAtTheSizeOneTooLarge() {
        keeps("p 2 of 2", Volumes::twoFiles, v -> v.read(1, 2, 0), BAD);
        keeps("p 1 of 1", Volumes::twoFiles, v -> v.read(2, 1, 0), BAD);
        keeps("p 8 of 8", Volumes::eightBlocks, v -> v.read(1, 8, 0), BAD);
    }

    static void bad_p0OfAnEmptyFile() {
        keeps("p 0 of 0", Volumes::noBlockInOrder, v -> v.read(6, 0, 0), BAD);
    }

    static void bad_aPlaceThatIsWrittenButNotYetBelowTheSize() {
        Volume v = Volumes.twoFiles();
        v.cut(4);
        v.append(2, 11, 12, 13);
        due("its PLACE", v.inode(2, 3), 3);
        due("read", v.read(2, 1, 0), BAD);
    }

    static void bad_pFarOffAndWrappedAround() {
        for (int p : wrongNumbers(7, 1)) {
            keeps("p " + p, Volumes::eightBlocks, v -> v.read(1, p, 0), BAD);
        }
    }

    static void bad_kMinus1And3() {
        keeps("k -1", Volumes::twoFiles, v -> v.read(1, 1, -1), BAD);
        keeps("k 3", Volumes::twoFiles, v -> v.read(1, 0, 3), BAD);
    }

    static void bad_kFarOffAndWrappedAround() {
        for (int k : wrongNumbers(2, 1)) {
            keeps("k " + k, Volumes::eightBlocks, v -> v.read(1, 1, k), BAD);
        }
    }

    static void bad_fileMinus1And12() {
        keeps("file -1", Volumes::twoFiles, v -> v.read(-1, 0, 0), BAD);
        keeps("file 12", Volumes::twoFiles, v -> v.read(12, 0, 0), BAD);
    }

    static void bad_filesFarOffAndWrappedAround() {
        for (int file : wrongInodes(1)) {
            keeps("file " + file, Volumes::twoFiles, v -> v.read(file, 0, 0), BAD);
        }
    }

    static void bad_fileIsADirectoryOrOfKind0() {
        keeps("THE ROOT", Volumes::twoFiles, v -> v.read(0, 0, 0), BAD);
        keeps("none", Volumes::twoFiles, v -> v.read(3, 0, 0), BAD);
        Volume v = Volumes.twoFiles();
        v.remove(0, 1);
        due("one that was removed", v.read(1, 0, 0), BAD);
    }
}
