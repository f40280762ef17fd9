/** Promise 2, `int cut(int n)`, and what the terms say of POWER. */
public final class Promise02CutTest extends TestKit {
    public static void main(String[] args) throws IllegalAccessException {
        run(Promise02CutTest.class);
    }

    // "POWER fails behind n more WRITES (0 .. 40 ..)"

    static void n_0_isTheLeast_theFirstWriteIsNotDone() {
        Volume v = Volumes.twoFiles();
        due("cut", v.cut(0), NONE);
        due("put", v.put(1, 0, 0, 77), DOWN);
        due("the WORD", v.dataOf(0, 0), 1);
        due("WRITES", v.count(2), 37);
    }

    static void n_1_oneWriteIsDoneAndTheSecondIsNot() {
        Volume v = Volumes.twoFiles();
        v.cut(1);
        due("the first put", v.put(1, 0, 0, 77), 1);
        due("the second put", v.put(1, 0, 0, 78), DOWN);
        due("the WORD", v.dataOf(0, 0), 77);
    }

    static void n_39_failsAsThe40thIsBegun() {
        failsBehind(39);
    }

    static void n_40_isTheGreatest_failsAsThe41stIsBegun() {
        failsBehind(40);
    }

    private static void failsBehind(int n) {
        Volume v = Volumes.twoFiles();
        due("cut", v.cut(n), NONE);
        for (int w = 1; w <= n; w++) {
            due("put " + w, v.put(1, 0, 0, 100 + w), 1);
        }
        due("not DOWN behind all of them", v.isDown(), 0);
        due("the one beyond", v.put(1, 0, 0, 999), DOWN);
        due("the last one that was done", v.dataOf(0, 0), 100 + n);
        due("WRITES", v.count(2), 37 + n);
    }

    static void nMore_areCountedFromTheCallOn() {
        Volume v = Volumes.twoFiles();
        v.cut(3);
        v.put(1, 0, 0, 1);
        v.put(1, 0, 0, 2);
        due("told anew", v.cut(2), 1);
        due("put", v.put(1, 0, 0, 3), 1);
        due("put again", v.put(1, 0, 0, 4), 1);
        due("the one beyond", v.put(1, 0, 0, 5), DOWN);
    }

    static void nMore_goOnThroughSeveralActs() {
        Volume v = Volumes.twoFiles();
        v.cut(18);
        due("make, 11 WRITES", v.make(0, 3, 1), 3);
        due("rename, 2", v.rename(0, 1, 3, 9), 1);
        due("append, 5", v.append(1, 0, 0, 0), 3);
        due("all 18 are done", v.isDown(), 0);
        due("none is left", v.left(), 0);
        due("remove", v.remove(3, 9), DOWN);
        due("the ENTRY stays", v.find(3, 9), 1);
    }

    // "NONE: it does not"

    static void none_itDoesNotFail() {
        Volume v = Volumes.twoFiles();
        v.cut(0);
        due("taken back", v.cut(NONE), 0);
        for (int w = 0; w < 60; w++) {
            due("put " + w, v.put(1, 0, 0, w), 1);
        }
        due("none is told", v.cut(NONE), NONE);
    }

    static void none_isSoAtFirst() {
        Volume v = Volumes.noBlockInTurns();
        due("266 WRITES", v.count(2), 266);
        due("isDown", v.isDown(), 0);
    }

    // "behind how many it would have failed till now; NONE"

    static void answer_noneAtFirst() {
        due("first", new Volume().cut(5), NONE);
    }

    static void answer_whatWasToldIfNothingWasWritten() {
        for (int n = 0; n <= 40; n++) {
            Volume v = new Volume();
            v.cut(n);
            due("told " + n, v.cut(NONE), n);
        }
    }

    static void answer_whatIsLeftBehindWrites() {
        Volume v = Volumes.twoFiles();
        v.cut(40);
        v.make(0, 3, 1);
        due("behind make", v.left(), 29);
        v.append(2, 0, 0, 0);
        due("behind append", v.left(), 24);
        v.put(1, 0, 0, 0);
        due("behind put", v.left(), 23);
        v.rename(0, 1, 3, 1);
        due("behind rename", v.left(), 21);
        v.step();
        due("behind step", v.left(), 11);
        v.remove(0, 2);
        due("behind remove", v.left(), 9);
        v.restart();
        due("behind a restart that has nothing to do", v.left(), 9);
    }

    static void answer_0IfTheNextWriteFails() {
        Volume v = Volumes.twoFiles();
        v.cut(5);
        v.append(1, 0, 0, 0);
        due("left", v.cut(NONE), 0);
    }

    static void answer_noneBehindAFailure() {
        Volume v = Volumes.twoFiles();
        v.cut(0);
        v.put(1, 0, 0, 0);
        due("used up", v.cut(NONE), NONE);
        v.cut(3);
        v.cut(NONE);
        due("and behind NONE", v.cut(1), NONE);
    }

    static void answer_whileDownToo() {
        Volume v = Volumes.down(Volumes.twoFiles());
        due("first", v.cut(9), NONE);
        due("then", v.cut(8), 9);
        due("BAD while DOWN", v.cut(41), BAD);
        due("still told", v.left(), 8);
        due("isDown", v.isDown(), 1);
    }

    // "BAD"

    static void bad_minus1OneTooSmall() {
        keeps("cut(-1)", Volumes::twoFiles, v -> v.cut(-1), BAD);
    }

    static void bad_41OneTooLarge() {
        keeps("cut(41)", Volumes::twoFiles, v -> v.cut(41), BAD);
    }

    static void bad_besideNone() {
        keeps("cut(-2)", Volumes::twoFiles, v -> v.cut(-2), BAD);
        keeps("cut(-4)", Volumes::twoFiles, v -> v.cut(-4), BAD);
    }

    static void bad_farOffAndWrappedAround() {
        for (int n : wrongNumbers(40, 5)) {
            if (n != NONE) {
                keeps("cut(" + n + ")", Volumes::twoFiles, v -> v.cut(n), BAD);
            }
        }
        keeps("NONE, a byte beyond", Volumes::twoFiles, v -> v.cut(NONE + 256), BAD);
    }

    // "POWER: fails as the WRITE that is one beyond the n that cut() told is begun"

    static void power_doesNotFailIfNoWriteIsBegun() {
        Volume v = Volumes.twoFiles();
        v.cut(0);
        due("a refused call", v.make(0, 1, 2), TAKEN);
        due("a question", v.plan(0), 1);
        due("a restart that WRITES nothing", v.restart(), 0);
        due("isDown", v.isDown(), 0);
        due("still told", v.left(), 0);
    }

    static void power_aStepThatMovesNothingIsNoWrite() {
        Volume v = Volumes.eightBlocks();
        v.cut(0);
        due("step", v.step(), 0);
        due("isDown", v.isDown(), 0);
        due("still told", v.left(), 0);
    }

    // "that, and what an act, or a restart, has still to do, is not done"

    static void power_theRestOfAnActIsNotDone() {
        Volume v = Volumes.twoFiles();
        v.cut(2);
        due("append", v.append(2, 11, 12, 13), DOWN);
        due("DATA 0", v.dataOf(3, 0), 11);
        due("DATA 1", v.dataOf(3, 1), 12);
        due("DATA 2", v.dataOf(3, 2), 0);
        due("PLACE", v.inode(2, 3), 0);
        due("SIZE", v.inode(2, 1), 1);
    }

    static void power_theRestOfARestartIsNotDone() {
        Volume v = Volumes.twoFiles();
        v.cut(4);
        v.step();
        v.cut(1);
        due("restart", v.restart(), DOWN);
        due("DATA 0", v.dataOf(39, 0), 4);
        due("DATA 1", v.dataOf(39, 1), 0);
        due("STATE", v.record(0), 1);
        due("PLACE", v.inode(2, 2), 1);
    }

    // "THE DISK is DOWN then till a restart is done wholly"

    static void power_downTillARestartIsDoneWholly() {
        Volume v = Volumes.twoFiles();
        v.cut(4);
        due("step", v.step(), DOWN);
        due("DOWN", v.isDown(), 1);
        v.cut(5);
        due("a restart that fails", v.restart(), DOWN);
        due("DOWN still", v.isDown(), 1);
        due("an act", v.put(1, 0, 0, 0), DOWN);
        due("a restart", v.restart(), 2);
        due("up", v.isDown(), 0);
        due("an act again", v.put(1, 0, 0, 0), 1);
    }
}
