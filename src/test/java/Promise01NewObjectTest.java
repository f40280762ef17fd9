/** Promise 1, `BlockMover()`: "THE ROOT, with nothing in it." */
public final class Promise01NewObjectTest extends TestKit {
    public static void main(String[] args) throws IllegalAccessException {
        run(Promise01NewObjectTest.class);
    }

    static void theRoot_inode0IsADirectory() {
        due("KIND of INODE 0", new Volume().inode(0, 0), 1);
    }

    static void theRoot_isTheOnlyInode() {
        due("INODES", new Volume().count(1), 1);
    }

    static void nothingInIt_noEntryAndNoBlock() {
        Volume v = new Volume();
        due("ENTRIES", v.count(5), 0);
        due("BLOCKS", v.count(0), 0);
        for (int p = 0; p < 8; p++) {
            due("PLACE " + p, v.inode(0, 2 + p), 0);
        }
        due("find the least NAME", v.find(0, 1), NONE);
        due("find the greatest NAME", v.find(0, 99), NONE);
    }

    static void allOtherWordsAre0AtFirst() {
        Volume v = new Volume();
        for (int i = 0; i < 12; i++) {
            for (int what = 0; what < 10; what++) {
                due("inode(" + i + ", " + what + ")", v.inode(i, what), i == 0 && what == 0 ? 1 : 0);
            }
        }
        for (int block = 0; block < 40; block++) {
            for (int k = 0; k < 3; k++) {
                due("DATA " + k + " of BLOCK " + block, v.dataOf(block, k), 0);
            }
        }
        for (int what = 0; what < 4; what++) {
            due("record(" + what + ")", v.record(what), 0);
        }
    }

    static void nothingHasBeenWrittenMovedOrAskedYet() {
        Volume v = new Volume();
        due("WRITES", v.count(2), 0);
        due("MOVES", v.count(3), 0);
        due("BLOCKS not in place", v.count(4), 0);
        due("asked", v.asked(), 0);
        due("isDown", v.isDown(), 0);
        due("no cut is told", v.cut(NONE), NONE);
    }

    static void objectsShareNothing() {
        Volume one = Volumes.twoFiles();
        one.read(1, 0, 0);
        one.cut(3);
        one.step();
        Volume other = new Volume();
        due("isDown", other.isDown(), 0);
        due("WRITES", other.count(2), 0);
        due("asked", other.asked(), 0);
        due("tree", other.tree(), (5 * 31 + 1) * 31 + 9);
        due("the first make", other.make(0, 1, 2), 1);
        due("the first object still", one.isDown(), 1);
    }
}
