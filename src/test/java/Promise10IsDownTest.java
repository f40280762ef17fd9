/** Promise 10, `int isDown()`: "Whether THE DISK is DOWN: 1, 0." */
public final class Promise10IsDownTest extends TestKit {
    public static void main(String[] args) throws IllegalAccessException {
        run(Promise10IsDownTest.class);
    }

    static void zero_atFirst() {
        keeps("isDown", Volumes::empty, Volume::isDown, 0);
        keeps("with FILES", Volumes::twoFiles, Volume::isDown, 0);
    }

    static void zero_whileACutIsOnlyTold() {
        Volume v = Volumes.twoFiles();
        v.cut(0);
        due("isDown", v.isDown(), 0);
    }

    static void zero_behindTheLastWriteThatIsDone() {
        Volume v = Volumes.twoFiles();
        v.cut(1);
        v.put(1, 0, 0, 5);
        due("isDown", v.isDown(), 0);
    }

    static void one_fromTheWriteOn_thatIsOneBeyond() {
        Volume v = Volumes.twoFiles();
        v.cut(1);
        v.put(1, 0, 0, 5);
        v.put(1, 0, 0, 6);
        due("isDown", v.isDown(), 1);
    }

    static void one_behindAFailureInEachAct() {
        due("make", behind(v -> v.make(0, 50, 2)), 1);
        due("append", behind(v -> v.append(1, 0, 0, 0)), 1);
        due("put", behind(v -> v.put(1, 0, 0, 0)), 1);
        due("remove", behind(v -> v.remove(0, 1)), 1);
        due("rename", behind(v -> v.rename(0, 1, 0, 50)), 1);
        due("step", behind(Volume::step), 1);
    }

    private static int behind(java.util.function.ToLongFunction<Volume> act) {
        Volume v = Volumes.twoFiles();
        v.cut(0);
        due("the act", act.applyAsLong(v), DOWN);
        return v.isDown();
    }

    static void one_behindAFailureInARestart() {
        Volume v = Volumes.twoFiles();
        v.cut(8);
        v.step();
        v.cut(1);
        v.restart();
        due("isDown", v.isDown(), 1);
    }

    static void one_staysBehindCutQuestionsAndRefusedActs() {
        Volume v = Volumes.down(Volumes.twoFiles());
        v.cut(NONE);
        due("behind cut(NONE)", v.isDown(), 1);
        v.cut(40);
        due("behind cut(40)", v.isDown(), 1);
        v.find(0, 1);
        v.make(0, 0, 0);
        v.make(0, 50, 2);
        due("behind calls", v.isDown(), 1);
        keeps("isDown", () -> Volumes.down(Volumes.twoFiles()), Volume::isDown, 1);
    }

    static void zero_behindARestartThatIsDoneWholly() {
        Volume v = Volumes.down(Volumes.twoFiles());
        v.restart();
        due("isDown", v.isDown(), 0);
    }
}
