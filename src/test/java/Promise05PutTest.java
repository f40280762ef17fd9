/** Promise 5, `int put(int file, int p, int k, long v)`. */
public final class Promise05PutTest extends TestKit {
    public static void main(String[] args) throws IllegalAccessException {
        run(Promise05PutTest.class);
    }

    // "DATA k of BLOCK p of a FILE (from 0) becomes v: 1"

    static void p_andK_theLeastAndTheGreatest() {
        for (int p : new int[] {0, 7}) {
            for (int k : new int[] {0, 2}) {
                writes(Volumes::eightBlocks, v -> v.put(1, p, k, -5), 1, write(Words.data(p, k), -5));
            }
        }
    }

    static void p_isThePlaceAndNotTheBlock() {
        writes(Volumes::twoFiles, v -> v.put(1, 1, 1, 70), 1, write(Words.data(2, 1), 70));
        writes(Volumes::twoFiles, v -> v.put(2, 0, 2, 70), 1, write(Words.data(1, 2), 70));
    }

    static void v_theLeastAndTheGreatestLong() {
        Volume v = Volumes.twoFiles();
        due("put", v.put(1, 0, 0, Long.MIN_VALUE), 1);
        due("put", v.put(1, 0, 1, Long.MAX_VALUE), 1);
        due("the least", v.dataOf(0, 0), Long.MIN_VALUE);
        due("the greatest", v.dataOf(0, 1), Long.MAX_VALUE);
    }

    static void aWordThatIsSoAlreadyIsWritten() {
        writes(Volumes::twoFiles, v -> v.put(1, 0, 0, 1), 1, write(Words.data(0, 0), 1));
    }

    static void file_inode11AndBlock39() {
        Volume v = Volumes.noInode();
        for (int n = 0; n < 8; n++) {
            v.append(11, n, n, n);
        }
        due("put", v.put(11, 7, 2, 99), 1);
        due("DATA 2 of BLOCK 8", v.dataOf(8, 2), 99);
        Volume w = Volumes.noBlockInOrder();
        due("put", w.put(5, 7, 2, 99), 1);
        due("DATA 2 of BLOCK 39", w.dataOf(39, 2), 99);
    }

    // "BAD"

    static void bad_pMinus1OneTooSmall() {
        keeps("p -1", Volumes::twoFiles, v -> v.put(1, -1, 0, 77), BAD);
    }

    static void bad_pAtTheSizeOneTooLarge() {
        keeps("p 2 of 2", Volumes::twoFiles, v -> v.put(1, 2, 0, 77), BAD);
        keeps("p 1 of 1", Volumes::twoFiles, v -> v.put(2, 1, 0, 77), BAD);
        keeps("p 8 of 8", Volumes::eightBlocks, v -> v.put(1, 8, 0, 77), BAD);
    }

    static void bad_p0OfAnEmptyFile() {
        keeps("p 0 of 0", Volumes::noBlockInOrder, v -> v.put(6, 0, 0, 77), BAD);
    }

    static void bad_pFarOffAndWrappedAround() {
        for (int p : wrongNumbers(7, 1)) {
            keeps("p " + p, Volumes::eightBlocks, v -> v.put(1, p, 0, 77), BAD);
        }
    }

    static void bad_kMinus1OneTooSmall() {
        keeps("k -1", Volumes::twoFiles, v -> v.put(1, 1, -1, 77), BAD);
    }

    static void bad_k3OneTooLarge() {
        keeps("k 3", Volumes::twoFiles, v -> v.put(1, 0, 3, 77), BAD);
    }

    static void bad_kFarOffAndWrappedAround() {
        for (int k : wrongNumbers(2, 1)) {
            keeps("k " + k, Volumes::eightBlocks, v -> v.put(1, 1, k, 77), BAD);
        }
    }

    static void bad_fileMinus1And12() {
        keeps("file -1", Volumes::twoFiles, v -> v.put(-1, 0, 0, 77), BAD);
        keeps("file 12", Volumes::twoFiles, v -> v.put(12, 0, 0, 77), BAD);
    }

    static void bad_filesFarOffAndWrappedAround() {
        for (int file : wrongInodes(1)) {
            keeps("file " + file, Volumes::twoFiles, v -> v.put(file, 0, 0, 77), BAD);
        }
    }

    static void bad_fileIsADirectoryOrOfKind0() {
        keeps("THE ROOT", Volumes::twoFiles, v -> v.put(0, 0, 0, 77), BAD);
        keeps("none", Volumes::twoFiles, v -> v.put(3, 0, 0, 77), BAD);
        Volume v = Volumes.twoFiles();
        v.remove(0, 1);
        due("one that was removed", v.put(1, 0, 0, 77), BAD);
        due("its DATA", v.dataOf(0, 0), 1);
    }

    // "of several the first"

    static void order_badAheadOfDown() {
        keeps("p", () -> Volumes.down(Volumes.twoFiles()), v -> v.put(1, 2, 0, 77), BAD);
        keeps("k", () -> Volumes.down(Volumes.twoFiles()), v -> v.put(1, 0, 3, 77), BAD);
        keeps("file", () -> Volumes.down(Volumes.twoFiles()), v -> v.put(0, 0, 0, 77), BAD);
    }

    static void order_down() {
        keeps("put", () -> Volumes.down(Volumes.twoFiles()), v -> v.put(1, 0, 0, 77), DOWN);
    }
}
