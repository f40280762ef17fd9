/** Promise 13, `int data(int block, int k)`. */
public final class Promise13DataTest extends TestKit {
    public static void main(String[] args) throws IllegalAccessException {
        run(Promise13DataTest.class);
    }

    // "DATA k of a BLOCK is ASKED for: 1"

    static void block_0And39_k_0To2() {
        for (int k = 0; k <= 2; k++) {
            Volume v = Volumes.noBlockInOrder();
            due("data", v.data(0, k), 1);
            due("asked", v.asked(), 1 + 100 * k);
            due("data", v.data(39, k), 1);
            due("asked", v.asked(), 40 + 100 * k);
        }
    }

    static void everyBlock() {
        Volume v = Volumes.noBlockInTurns();
        for (int block = 0; block < 40; block++) {
            due("data", v.data(block, 1), 1);
            due("asked", v.asked(), block + 101);
        }
    }

    static void aFreeBlockToo() {
        Volume v = Volumes.twoFiles();
        due("never written", v.data(39, 2), 1);
        due("asked", v.asked(), 0);
        v.remove(0, 1);
        due("of a FILE that was removed", v.data(2, 0), 1);
        due("asked", v.asked(), 7);
    }

    static void changesNothingButWhatIsAsked() {
        Volume v = Volumes.twoFiles();
        long digest = v.digest();
        v.data(2, 2);
        due("digest", v.digest(), digest);
        due("WRITES", v.count(2), 37);
    }

    static void whileDown_too() {
        Volume v = Volumes.down(Volumes.twoFiles());
        due("data", v.data(1, 1), 1);
        due("asked", v.asked(), 5);
        due("BAD", v.data(40, 0), BAD);
    }

    // "BAD"

    static void bad_blockMinus1OneTooSmall() {
        keeps("data(-1, 0)", Volumes::twoFiles, v -> v.data(-1, 0), BAD);
        keeps("data(-1, 2)", Volumes::twoFiles, v -> v.data(-1, 2), BAD);
    }

    static void bad_block40OneTooLarge() {
        keeps("data(40, 0)", Volumes::twoFiles, v -> v.data(40, 0), BAD);
        keeps("data(40, 2)", Volumes::twoFiles, v -> v.data(40, 2), BAD);
    }

    static void bad_kMinus1OneTooSmall() {
        keeps("data(0, -1)", Volumes::twoFiles, v -> v.data(0, -1), BAD);
        keeps("data(1, -1)", Volumes::twoFiles, v -> v.data(1, -1), BAD);
        keeps("data(39, -1)", Volumes::twoFiles, v -> v.data(39, -1), BAD);
    }

    static void bad_k3OneTooLarge() {
        keeps("data(0, 3)", Volumes::twoFiles, v -> v.data(0, 3), BAD);
        keeps("data(39, 3)", Volumes::twoFiles, v -> v.data(39, 3), BAD);
        keeps("data(-1, 3)", Volumes::twoFiles, v -> v.data(-1, 3), BAD);
    }

    static void bad_farOffAndWrappedAround() {
        for (int block : wrongNumbers(39, 1)) {
            keeps("block " + block, Volumes::twoFiles, v -> v.data(block, 1), BAD);
        }
        for (int k : wrongNumbers(2, 1)) {
            keeps("k " + k, Volumes::twoFiles, v -> v.data(1, k), BAD);
        }
    }
}
