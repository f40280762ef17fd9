/** Promise 17, `int plan(int what)`. */
public final class Promise17PlanTest extends TestKit {
    public static void main(String[] args) throws IllegalAccessException {
        run(Promise17PlanTest.class);
    }

    // "What the next step would MOVE: 0 the BLOCK from which, 1 to which, 2 the INODE, 3 the PLACE"

    static void each_0TheLeastTo3TheGreatest_gIsUsed() {
        int[] due = {1, 39, 2, 0};
        for (int what = 0; what <= 3; what++) {
            int any = what;
            keeps("plan(" + what + ")", Volumes::twoFiles, v -> v.plan(any), due[what]);
        }
    }

    static void each_0TheLeastTo3TheGreatest_gIsFree() {
        int[] due = {2, 1, 1, 1};
        for (int what = 0; what <= 3; what++) {
            int any = what;
            keeps("plan(" + what + ")", Promise17PlanTest::steppedOnce, v -> v.plan(any), due[what]);
        }
    }

    private static Volume steppedOnce() {
        Volume v = Volumes.twoFiles();
        v.step();
        return v;
    }

    static void isWhatTheStepThenDoes_tillTheLast() {
        Volume v = Volumes.blocksInTurns(20);
        for (int n = 0; n < 40 && v.plan(0) != NONE; n++) {
            int from = v.plan(0);
            int to = v.plan(1);
            int i = v.plan(2);
            int p = v.plan(3);
            due("from", v.inode(i, 2 + p), from);
            due("step", v.step(), 1);
            due("to", v.inode(i, 2 + p), to);
        }
        due("in place", v.count(4), 0);
    }

    static void to0_from39_theLeastAndTheGreatestBlock() {
        Volume v = new Volume();
        v.make(0, 1, 2);
        v.make(0, 2, 2);
        v.append(2, 2, 2, 2);
        v.append(1, 1, 1, 1);
        v.step();
        v.remove(0, 1);
        due("from", v.plan(0), 39);
        due("to", v.plan(1), 0);
        due("INODE", v.plan(2), 2);
        due("PLACE", v.plan(3), 0);
    }

    static void place7AndInode11() {
        Volume v = Volumes.noInode();
        v.remove(0, 2);
        for (int n = 0; n < 8; n++) {
            v.append(11, n, n, n);
        }
        v.append(10, 1, 1, 1);
        while (v.plan(3) != 7) {
            due("step", v.step(), 1);
        }
        due("INODE", v.plan(2), 11);
        due("PLACE", v.plan(3), 7);
    }

    static void itIsNoStep_aCutOf0DoesNotFailInIt() {
        Volume v = Volumes.twoFiles();
        v.cut(0);
        due("plan", v.plan(1), 39);
        due("isDown", v.isDown(), 0);
        due("THE RECORD", v.record(3), 0);
    }

    static void whileDown_fromTheWordsAsTheyAre() {
        keeps("to", () -> Volumes.down(Volumes.twoFiles()), v -> v.plan(1), 39);
        keeps("nothing", () -> Volumes.down(Volumes.eightBlocks()), v -> v.plan(1), NONE);
        keeps("FULL", () -> Volumes.down(Volumes.noBlockInTurns()), v -> v.plan(1), FULL);
    }

    // "NONE: nothing"

    static void none_noBlockAtAll() {
        for (int what = 0; what <= 3; what++) {
            int any = what;
            keeps("plan(" + what + ")", Volumes::empty, v -> v.plan(any), NONE);
        }
    }

    static void none_allInOrder() {
        for (int what = 0; what <= 3; what++) {
            int any = what;
            keeps("plan(" + what + ")", Volumes::eightBlocks, v -> v.plan(any), NONE);
        }
    }

    static void none_allInOrderAndNoneIsFree() {
        keeps("plan", Volumes::noBlockInOrder, v -> v.plan(0), NONE);
    }

    // "FULL likewise"

    static void full_noneIsFree() {
        for (int what = 0; what <= 3; what++) {
            int any = what;
            keeps("plan(" + what + ")", Volumes::noBlockInTurns, v -> v.plan(any), FULL);
        }
    }

    static void full_notYetWithOneFree() {
        Volume v = Volumes.blocksInTurns(39);
        due("from", v.plan(0), 1);
        due("to", v.plan(1), 39);
        due("INODE", v.plan(2), 2);
        due("PLACE", v.plan(3), 0);
    }

    // "BAD: what"

    static void bad_minus1And4() {
        keeps("plan(-1)", Volumes::twoFiles, v -> v.plan(-1), BAD);
        keeps("plan(4)", Volumes::twoFiles, v -> v.plan(4), BAD);
    }

    static void bad_farOffAndWrappedAround() {
        for (int what : wrongNumbers(3, 1)) {
            keeps("plan(" + what + ")", Volumes::twoFiles, v -> v.plan(what), BAD);
        }
    }

    static void order_badAheadOfNone() {
        keeps("plan(-1)", Volumes::eightBlocks, v -> v.plan(-1), BAD);
        keeps("plan(4)", Volumes::empty, v -> v.plan(4), BAD);
    }

    static void order_badAheadOfFull() {
        keeps("plan(-1)", Volumes::noBlockInTurns, v -> v.plan(-1), BAD);
        keeps("plan(4)", Volumes::noBlockInTurns, v -> v.plan(4), BAD);
    }
}
