/** Promise 4, `int append(int file, long a, long b, long c)`. */
public final class Promise04AppendTest extends TestKit {
    public static void main(String[] args) throws IllegalAccessException {
        run(Promise04AppendTest.class);
    }

    // "A FILE has one more BLOCK, with DATA: how many"

    static void howMany_from1To8() {
        Volume v = new Volume();
        v.make(0, 1, 2);
        for (int n = 1; n <= 8; n++) {
            due("append", v.append(1, n, n, n), n);
            due("SIZE", v.inode(1, 1), n);
        }
    }

    static void data_theLeastAndTheGreatestLong() {
        Volume v = new Volume();
        v.make(0, 1, 2);
        v.append(1, Long.MIN_VALUE, Long.MAX_VALUE, -1);
        v.append(1, Long.MAX_VALUE, 0, Long.MIN_VALUE);
        v.append(1, 1L << 32, -(1L << 32), Integer.MIN_VALUE);
        due("0 0", v.dataOf(0, 0), Long.MIN_VALUE);
        due("0 1", v.dataOf(0, 1), Long.MAX_VALUE);
        due("0 2", v.dataOf(0, 2), -1);
        due("1 0", v.dataOf(1, 0), Long.MAX_VALUE);
        due("1 1", v.dataOf(1, 1), 0);
        due("1 2", v.dataOf(1, 2), Long.MIN_VALUE);
        due("2 0", v.dataOf(2, 0), 1L << 32);
        due("2 1", v.dataOf(2, 1), -(1L << 32));
        due("2 2", v.dataOf(2, 2), Integer.MIN_VALUE);
    }

    static void file_inode11TheGreatest() {
        Volume v = Volumes.noInode();
        due("append", v.append(11, 4, 5, 6), 1);
        due("PLACE 0", v.inode(11, 2), 1);
        for (int n = 2; n <= 8; n++) {
            due("append", v.append(11, 0, 0, n), n);
        }
        due("PLACE 7", v.inode(11, 9), 8);
    }

    // "the least FREE BLOCK"

    static void leastFreeBlock_0AtFirst() {
        Volume v = new Volume();
        v.make(0, 1, 2);
        v.append(1, 9, 9, 9);
        due("BLOCK", v.inode(1, 2), 0);
    }

    static void leastFreeBlock_39IsTheGreatest() {
        Volume v = Volumes.blocksInTurns(39);
        due("append", v.append(5, 7, 8, 9), 8);
        due("BLOCK", v.inode(5, 9), 39);
        due("DATA 2", v.dataOf(39, 2), 9);
        due("none is FREE", v.append(6, 0, 0, 0), FULL);
    }

    static void leastFreeBlock_32IsNot0() {
        Volume v = Volumes.blocksInTurns(32);
        due("append", v.append(6, 7, 8, 9), 1);
        due("BLOCK", v.inode(6, 2), 32);
        due("BLOCK 0 stays", v.dataOf(0, 0), 1);
    }

    static void leastFreeBlock_oneThatBecameFree() {
        Volume v = Volumes.noBlockInOrder();
        v.remove(0, 5);
        v.remove(0, 2);
        v.append(6, 0, 0, 0);
        due("BLOCK", v.inode(6, 2), 8);
        for (int n = 0; n < 7; n++) {
            v.append(6, 0, 0, 0);
        }
        v.make(0, 50, 2);
        v.append(2, 0, 0, 0);
        due("the first of the other FILE's", v.inode(2, 2), 32);
    }

    static void leastFreeBlock_oneThatAMoveLeft() {
        Volume v = Volumes.twoFiles();
        v.step();
        v.append(1, 0, 0, 0);
        due("BLOCK", v.inode(1, 4), 1);
    }

    static void used_byAFileAlone_theSizeOfARemovedOneIsNothing() {
        Volume v = Volumes.eightBlocks();
        v.make(0, 2, 2);
        v.remove(0, 1);
        due("SIZE stays", v.inode(1, 1), 8);
        v.append(2, 0, 0, 0);
        due("BLOCK", v.inode(2, 2), 0);
    }

    static void used_aPlaceAtTheSizeIsNoBlock() {
        Volume v = Volumes.twoFiles();
        v.cut(4);
        due("append", v.append(1, 11, 12, 13), DOWN);
        due("its PLACE", v.inode(1, 4), 3);
        due("SIZE", v.inode(1, 1), 2);
        due("USED", v.count(0), 3);
        v.restart();
        v.append(2, 14, 15, 16);
        due("the BLOCK is FREE still", v.inode(2, 3), 3);
        due("BLOCKS of the first FILE", v.append(1, 0, 0, 0), 3);
        due("its PLACE then", v.inode(1, 4), 4);
    }

    // "DATA 0, 1, 2; the PLACE behind the last one; SIZE"

    static void writes_dataPlaceSize() {
        writes(Volumes::twoFiles, v -> v.append(2, 11, 12, 13), 2,
            write(Words.data(3, 0), 11), write(Words.data(3, 1), 12), write(Words.data(3, 2), 13),
            write(Words.place(2, 1), 3), write(Words.size(2), 2));
    }

    static void writes_alsoWordsThatAreSoAlready() {
        writes(Promise04AppendTest::anEmptyFile, v -> v.append(1, 0, 0, 0), 1,
            write(Words.data(0, 0), 0), write(Words.data(0, 1), 0), write(Words.data(0, 2), 0),
            write(Words.place(1, 0), 0), write(Words.size(1), 1));
    }

    private static Volume anEmptyFile() {
        Volume v = new Volume();
        v.make(0, 1, 2);
        return v;
    }

    static void writes_theEighthBlock() {
        writes(Promise04AppendTest::sevenBlocks, v -> v.append(1, 1, 2, 3), 8,
            write(Words.data(7, 0), 1), write(Words.data(7, 1), 2), write(Words.data(7, 2), 3),
            write(Words.place(1, 7), 7), write(Words.size(1), 8));
    }

    private static Volume sevenBlocks() {
        Volume v = anEmptyFile();
        for (int n = 0; n < 7; n++) {
            v.append(1, n + 1, n, n);
        }
        return v;
    }

    // "BAD"

    static void bad_fileMinus1And12() {
        keeps("append(-1, ..)", Volumes::twoFiles, v -> v.append(-1, 1, 2, 3), BAD);
        keeps("append(12, ..)", Volumes::twoFiles, v -> v.append(12, 1, 2, 3), BAD);
    }

    static void bad_filesFarOffAndWrappedAround() {
        for (int file : wrongInodes(1)) {
            keeps("file " + file, Volumes::twoFiles, v -> v.append(file, 1, 2, 3), BAD);
        }
    }

    static void bad_fileIsADirectory() {
        keeps("THE ROOT", Volumes::twoFiles, v -> v.append(0, 1, 2, 3), BAD);
        keeps("another one", Volumes::twoDirectories, v -> v.append(1, 1, 2, 3), BAD);
    }

    static void bad_fileIsOfKind0() {
        keeps("none", Volumes::twoFiles, v -> v.append(3, 1, 2, 3), BAD);
        Volume v = Volumes.twoFiles();
        v.remove(0, 1);
        due("one that was removed", v.append(1, 1, 2, 3), BAD);
    }

    // "FULL: 8, or none is FREE"

    static void full_8() {
        keeps("append", Volumes::eightBlocks, v -> v.append(1, 1, 2, 3), FULL);
    }

    static void full_notYetWith7() {
        Volume v = sevenBlocks();
        due("the eighth", v.append(1, 1, 2, 3), 8);
        due("the ninth", v.append(1, 1, 2, 3), FULL);
    }

    static void full_noneIsFree() {
        keeps("append", Volumes::noBlockInOrder, v -> v.append(6, 1, 2, 3), FULL);
        keeps("in turns", Volumes::noBlockInTurns, v -> v.append(6, 1, 2, 3), FULL);
    }

    static void full_noMoreWhenABlockIsFreeAgain() {
        Volume v = Volumes.noBlockInTurns();
        v.remove(0, 3);
        due("append", v.append(6, 1, 2, 3), 1);
        due("BLOCK", v.inode(6, 2), 2);
    }

    // "of several the first"

    static void order_badAheadOfDown() {
        keeps("a DIRECTORY", () -> Volumes.down(Volumes.twoFiles()), v -> v.append(0, 1, 2, 3), BAD);
        keeps("12", () -> Volumes.down(Volumes.twoFiles()), v -> v.append(12, 1, 2, 3), BAD);
    }

    static void order_badAheadOfFull() {
        keeps("a DIRECTORY", Volumes::noBlockInOrder, v -> v.append(0, 1, 2, 3), BAD);
        keeps("KIND 0", Volumes::noBlockInOrder, v -> v.append(7, 1, 2, 3), BAD);
    }

    static void order_down() {
        keeps("append", () -> Volumes.down(Volumes.twoFiles()), v -> v.append(1, 1, 2, 3), DOWN);
    }

    static void order_downAheadOfFull() {
        keeps("8", () -> Volumes.down(Volumes.eightBlocks()), v -> v.append(1, 1, 2, 3), DOWN);
        keeps("none is FREE", () -> Volumes.down(Volumes.noBlockInOrder()), v -> v.append(6, 1, 2, 3), DOWN);
    }
}
