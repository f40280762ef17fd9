/** Promise 8, `int step()`, and what the terms say of a step and a MOVE. */
public final class Promise08StepTest extends TestKit {
    public static void main(String[] args) throws IllegalAccessException {
        run(Promise08StepTest.class);
    }

    // "0: all are where they ought to be"

    static void zero_noFileAtAll() {
        keeps("step", Volumes::empty, Volume::step, 0);
    }

    static void zero_filesWithoutBlocks() {
        keeps("step", Promise08StepTest::emptyFiles, Volume::step, 0);
    }

    private static Volume emptyFiles() {
        Volume v = new Volume();
        v.make(0, 1, 2);
        v.make(0, 2, 2);
        return v;
    }

    static void zero_allInOrder() {
        keeps("one FILE", Volumes::eightBlocks, Volume::step, 0);
    }

    static void zero_allInOrderAndNoneIsFree() {
        keeps("step", Volumes::noBlockInOrder, Volume::step, 0);
    }

    static void zero_behindTheLastMove() {
        Volume v = Volumes.twoFiles();
        due("first", v.step(), 1);
        due("second", v.step(), 1);
        due("third", v.step(), 1);
        String before = v.state();
        due("fourth", v.step(), 0);
        due("nothing has changed", v.state().equals(before) ? 1 : 0, 1);
    }

    static void zero_aRemovedFilesBlocksAreNotMoved() {
        Volume v = Volumes.twoFiles();
        v.remove(0, 2);
        v.step();
        due("step", v.step(), 0);
        due("BLOCKS of the FILE", 10 * v.inode(1, 2) + v.inode(1, 3), 1);
    }

    // "FILES, by numbers of INODES, BLOCKS in order, ought to be 0, 1, 2, .."

    static void order_byNumbersOfInodes_notByNamesOrDepth() {
        Volume v = new Volume();
        v.make(0, 50, 1);
        v.make(1, 99, 2);
        v.make(0, 1, 2);
        v.append(3, 1, 1, 1);
        v.append(2, 2, 2, 2);
        due("INODE 3's goes away from 0", v.plan(2), 3);
        v.step();
        v.step();
        v.step();
        due("INODE 2 is first", v.inode(2, 2), 0);
        due("INODE 3 behind it", v.inode(3, 2), 1);
    }

    static void order_byNumbers_inode11IsTheLast() {
        Volume v = Volumes.noInode();
        v.remove(0, 2);
        v.append(11, 11, 11, 11);
        v.append(7, 7, 7, 7);
        v.step();
        v.step();
        v.step();
        due("step", v.step(), 0);
        due("INODE 7", v.inode(7, 2), 0);
        due("INODE 11", v.inode(11, 2), 1);
        due("its DATA", v.readOf(11, 0, 1), 11);
    }

    static void order_anEmptyFileTakesNoPlace() {
        Volume v = emptyFiles();
        v.append(2, 1, 2, 3);
        due("step", v.step(), 0);
        due("BLOCK", v.inode(2, 2), 0);
    }

    // "the first that is not where it ought to be, at g: if g is FREE it is MOVED there"

    static void gIsFree_0() {
        writes(Promise08StepTest::blockZeroIsFree, Volume::step, 1, write(Words.record(1), 2),
            write(Words.record(2), 0), write(Words.record(3), 0), write(Words.record(0), 1),
            write(Words.data(0, 0), 4), write(Words.data(0, 1), 5), write(Words.data(0, 2), 6),
            write(Words.record(0), 2), write(Words.place(2, 0), 0), write(Words.record(0), 0));
    }

    private static Volume blockZeroIsFree() {
        Volume v = Volumes.twoFiles();
        v.remove(0, 1);
        return v;
    }

    static void gIsFree_from39TheGreatest() {
        writes(() -> stepped(2), Volume::step, 1, write(Words.record(1), 2),
            write(Words.record(2), 0), write(Words.record(3), 2), write(Words.record(0), 1),
            write(Words.data(2, 0), 4), write(Words.data(2, 1), 5), write(Words.data(2, 2), 6),
            write(Words.record(0), 2), write(Words.place(2, 0), 2), write(Words.record(0), 0));
    }

    private static Volume stepped(int steps) {
        Volume v = Volumes.twoFiles();
        for (int n = 0; n < steps; n++) {
            v.step();
        }
        return v;
    }

    static void gIsFree_theFirstOneThatIsNotThereIsMoved() {
        Volume v = Volumes.noBlockInOrder();
        v.remove(0, 2);
        due("step", v.step(), 1);
        due("the first of FILE 3", v.inode(3, 2), 8);
        due("its second", v.inode(3, 3), 17);
    }

    // "else that which is at g is MOVED to the greatest FREE BLOCK"

    static void gIsUsed_39IsTheGreatestFree() {
        writes(Volumes::twoFiles, Volume::step, 1, write(Words.record(1), 2),
            write(Words.record(2), 0), write(Words.record(3), 39), write(Words.record(0), 1),
            write(Words.data(39, 0), 4), write(Words.data(39, 1), 5), write(Words.data(39, 2), 6),
            write(Words.record(0), 2), write(Words.place(2, 0), 39), write(Words.record(0), 0));
    }

    static void gIsUsed_theOnlyFreeBlockIsTheGreatest() {
        for (int file = 1; file <= 5; file++) {
            Volume v = Volumes.blocksInTurns(35);
            for (int f = 1; f <= 5; f++) {
                if (f != file) {
                    v.append(f, 0, 0, f);
                }
            }
            due("step with 39 FREE", v.step(), 1);
            due("BLOCK 1's", v.inode(2, 2), 39);
        }
    }

    static void gIsUsed_lessThan39IfThatIsUsed() {
        Volume v = new Volume();
        for (int f = 1; f <= 3; f++) {
            v.make(0, f, 2);
        }
        v.append(3, 3, 3, 3);
        v.append(2, 2, 2, 2);
        v.append(1, 1, 1, 1);
        due("step", v.step(), 1);
        due("3 goes to 39", v.inode(3, 2), 39);
        due("step", v.step(), 1);
        due("1 comes to 0", v.inode(1, 2), 0);
        due("2 is at 1", v.inode(2, 2), 1);
        v.append(1, 4, 4, 4);
        due("step", v.step(), 1);
        due("2 goes to 38", v.inode(2, 2), 38);
    }

    static void gIsUsed_byALaterBlockOfTheSameFile() {
        Volume v = emptyFiles();
        v.append(2, 2, 2, 2);
        v.append(1, 1, 1, 1);
        v.step();
        v.append(2, 3, 3, 3);
        v.remove(0, 1);
        due("PLACES of 2", 100 * v.inode(2, 2) + v.inode(2, 3), 3900);
        due("step", v.step(), 1);
        due("its second goes to 38", v.inode(2, 3), 38);
        v.step();
        due("its first comes to 0", v.inode(2, 2), 0);
        v.step();
        due("its second comes to 1", v.inode(2, 3), 1);
        due("step", v.step(), 0);
    }

    // "A MOVE .. : THE RECORD's INODE i, its PLACE p, its BLOCK t, its STATE 1; DATA .. STATE 2; PLACE ..; STATE 0"

    static void move_ofPlace7() {
        writes(Promise08StepTest::eighthBlockApart, Volume::step, 1, write(Words.record(1), 1),
            write(Words.record(2), 7), write(Words.record(3), 7), write(Words.record(0), 1),
            write(Words.data(7, 0), 91), write(Words.data(7, 1), 92), write(Words.data(7, 2), 93),
            write(Words.record(0), 2), write(Words.place(1, 7), 7), write(Words.record(0), 0));
    }

    private static Volume eighthBlockApart() {
        Volume v = emptyFiles();
        for (int n = 0; n < 7; n++) {
            v.append(1, n + 1, n, n);
        }
        v.append(2, 81, 82, 83);
        v.append(1, 91, 92, 93);
        v.step();
        return v;
    }

    static void move_writesTheRecordThoughItIsSoAlready() {
        Volume v = Volumes.twoFiles();
        v.step();
        int before = v.count(2);
        v.step();
        due("WRITES", v.count(2) - before, 10);
        v.step();
        due("WRITES", v.count(2) - before, 20);
    }

    static void move_leavesTheTreeAndTheOldBlocksData() {
        Volume v = Volumes.twoFiles();
        long tree = v.tree();
        v.step();
        due("tree", v.tree(), tree);
        due("DATA 0 of the old BLOCK", v.dataOf(1, 0), 4);
        due("the old BLOCK is FREE", v.count(0), 3);
    }

    static void move_ofTheLeastAndTheGreatestLong() {
        Volume v = emptyFiles();
        v.append(2, Long.MIN_VALUE, Long.MAX_VALUE, 1L << 40);
        v.append(1, 0, 0, 0);
        due("step", v.step(), 1);
        due("DATA 0", v.dataOf(39, 0), Long.MIN_VALUE);
        due("DATA 1", v.dataOf(39, 1), Long.MAX_VALUE);
        due("DATA 2", v.dataOf(39, 2), 1L << 40);
    }

    static void steps_layEachFileIntoOneRun_with39BlocksUsed() {
        Volume v = Volumes.blocksInTurns(39);
        long tree = v.tree();
        int steps = 0;
        while (steps < 300 && v.step() == 1) {
            steps++;
        }
        due("in place", v.count(4), 0);
        due("MOVES", v.count(3), steps);
        due("tree", v.tree(), tree);
        for (int file = 1; file <= 5; file++) {
            due("runs of " + file, v.runs(file), 1);
        }
    }

    // "DOWN; FULL: none is FREE"

    static void full_noneIsFree() {
        keeps("step", Volumes::noBlockInTurns, Volume::step, FULL);
    }

    static void full_notYetWithOneFree() {
        Volume v = Volumes.blocksInTurns(39);
        due("step", v.step(), 1);
    }

    static void full_noMoreBehindRemove() {
        Volume v = Volumes.noBlockInTurns();
        v.remove(0, 5);
        due("step", v.step(), 1);
    }

    static void order_down() {
        keeps("step", () -> Volumes.down(Volumes.twoFiles()), Volume::step, DOWN);
    }

    static void order_downAheadOfFull() {
        keeps("step", () -> Volumes.down(Volumes.noBlockInTurns()), Volume::step, DOWN);
    }

    static void order_downThoughAllAreInOrder() {
        keeps("step", () -> Volumes.down(Volumes.eightBlocks()), Volume::step, DOWN);
        keeps("with nothing in it", () -> Volumes.down(Volumes.empty()), Volume::step, DOWN);
    }
}
