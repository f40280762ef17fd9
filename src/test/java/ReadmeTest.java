/** The example in README.md answers what its comments say. */
public final class ReadmeTest {
    private ReadmeTest() {
    }

    public static void main(String[] args) {
        Check check = new Check();
        BlockMover volume = new BlockMover();
        int file = volume.make(0, 5, 2);
        check.due("make", file, 1);
        check.due("append", volume.append(file, 10, 20, 30), 1);
        check.due("cut", volume.cut(4), BlockMover.NONE);
        check.due("append, cut", volume.append(file, 1, 2, 3), BlockMover.DOWN);
        check.due("restart", volume.restart(), 0);
        check.due("isDown", volume.isDown(), 0);
        check.due("step", volume.step(), 0);
        check.due("read", volume.read(file, 0, 2), 1);
        check.due("asked", volume.asked(), 30);
        check.end();
    }
}
