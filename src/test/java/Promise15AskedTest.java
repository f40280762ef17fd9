/** Promise 15, `long asked()`: "What was ASKED for last; 0 before." */
public final class Promise15AskedTest extends TestKit {
    public static void main(String[] args) throws IllegalAccessException {
        run(Promise15AskedTest.class);
    }

    static void zeroBefore() {
        due("new", new Volume().asked(), 0);
        due("behind acts alone", Volumes.twoFiles().asked(), 0);
    }

    static void zeroBefore_alsoBehindRefusedAsks() {
        Volume v = Volumes.twoFiles();
        v.data(40, 0);
        v.read(1, 2, 0);
        due("asked", v.asked(), 0);
    }

    static void last_ofDataAndRead() {
        Volume v = Volumes.twoFiles();
        v.data(1, 2);
        due("data", v.asked(), 6);
        v.read(1, 1, 0);
        due("read", v.asked(), 7);
        v.data(0, 1);
        due("data again", v.asked(), 2);
        v.data(39, 0);
        due("a 0", v.asked(), 0);
    }

    static void last_staysHoweverOftenItIsTold() {
        Volume v = Volumes.twoFiles();
        v.data(1, 2);
        due("once", v.asked(), 6);
        due("twice", v.asked(), 6);
    }

    static void last_staysBehindARefusedAsk() {
        Volume v = Volumes.twoFiles();
        v.data(1, 2);
        v.data(1, 3);
        v.data(-1, 0);
        v.read(0, 0, 0);
        v.read(1, 0, 3);
        due("asked", v.asked(), 6);
    }

    static void last_staysBehindActsAndOtherQuestions() {
        Volume v = Volumes.twoFiles();
        v.data(1, 0);
        v.put(2, 0, 0, 99);
        due("behind put", v.asked(), 4);
        v.step();
        v.remove(0, 2);
        v.tree();
        v.digest();
        v.find(0, 1);
        v.inode(1, 1);
        v.record(3);
        v.plan(0);
        v.count(2);
        v.runs(1);
        due("behind the others", v.asked(), 4);
        v.cut(0);
        v.put(1, 0, 0, 0);
        v.restart();
        due("behind a restart", v.asked(), 4);
    }

    static void theLeastAndTheGreatestLong() {
        Volume v = Volumes.twoFiles();
        v.put(1, 0, 0, Long.MIN_VALUE);
        v.put(1, 0, 1, Long.MAX_VALUE);
        v.put(1, 0, 2, 1L << 32);
        due("the least", v.readOf(1, 0, 0), Long.MIN_VALUE);
        due("the greatest", v.dataOf(0, 1), Long.MAX_VALUE);
        due("beyond an int", v.readOf(1, 0, 2), 1L << 32);
    }
}
