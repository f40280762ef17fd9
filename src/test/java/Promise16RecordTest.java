/** Promise 16, `int record(int what)`. */
public final class Promise16RecordTest extends TestKit {
    public static void main(String[] args) throws IllegalAccessException {
        run(Promise16RecordTest.class);
    }

    // "Of THE RECORD: 0 STATE, 1 INODE, 2 PLACE, 3 BLOCK"

    static void zeroAtFirst() {
        for (int what = 0; what <= 3; what++) {
            int any = what;
            keeps("record(" + what + ")", Volumes::twoFiles, v -> v.record(any), 0);
        }
    }

    static void each_0TheLeastTo3TheGreatest() {
        Volume v = Volumes.twoFiles();
        v.step();
        v.cut(4);
        v.step();
        due("STATE", v.record(0), 1);
        due("INODE", v.record(1), 1);
        due("PLACE", v.record(2), 1);
        due("BLOCK", v.record(3), 1);
    }

    static void state_0To2_asTheStepGoesOn() {
        int[] states = {0, 0, 0, 0, 1, 1, 1, 1, 2, 2, 0};
        for (int n = 0; n <= 10; n++) {
            Volume v = Volumes.twoFiles();
            v.cut(n);
            v.step();
            due("STATE behind " + n, v.record(0), states[n]);
            due("INODE behind " + n, v.record(1), n >= 1 ? 2 : 0);
            due("BLOCK behind " + n, v.record(3), n >= 3 ? 39 : 0);
        }
    }

    static void theGreatestInodePlaceAndBlock() {
        Volume v = Volumes.noInode();
        for (int n = 0; n < 8; n++) {
            v.append(11, n, n, n);
        }
        v.append(10, 5, 5, 5);
        v.step();
        due("INODE of the one in the way", v.record(1), 11);
        due("its PLACE", v.record(2), 0);
        due("its BLOCK", v.record(3), 39);
        while (v.step() == 1) {
            due("STATE behind each step", v.record(0), 0);
        }
        due("the last INODE", v.record(1), 11);
        due("the last PLACE", v.record(2), 7);
        due("the last BLOCK", v.record(3), 9);
    }

    static void staysBehindAMoveButForTheState() {
        Volume v = Volumes.twoFiles();
        v.step();
        due("STATE", v.record(0), 0);
        due("INODE", v.record(1), 2);
        due("PLACE", v.record(2), 0);
        due("BLOCK", v.record(3), 39);
        v.restart();
        due("BLOCK behind a restart", v.record(3), 39);
    }

    // "BAD"

    static void bad_minus1And4() {
        keeps("record(-1)", Volumes::twoFiles, v -> v.record(-1), BAD);
        keeps("record(4)", Volumes::twoFiles, v -> v.record(4), BAD);
    }

    static void bad_farOffAndWrappedAround() {
        for (int what : wrongNumbers(3, 3)) {
            keeps("record(" + what + ")", Volumes::twoFiles, v -> v.record(what), BAD);
        }
        keeps("while DOWN", () -> Volumes.down(Volumes.twoFiles()), v -> v.record(4), BAD);
    }
}
