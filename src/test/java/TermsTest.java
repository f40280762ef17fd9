/** What the document says ahead of its promises, where no promise's own test holds it. */
public final class TermsTest extends TestKit {
    public static void main(String[] args) throws IllegalAccessException {
        run(TermsTest.class);
    }

    // "An object is used for at most 512 calls after it has been made"

    static void calls_the512thIsAnsweredAsTheFirst() {
        Volume v = Volumes.twoFiles();
        while (v.callsLeft() > 1) {
            due("put", v.put(1, 0, 0, v.callsLeft()), 1);
        }
        due("WRITES, by the 512th call", v.count(2), 37 + 506);
    }

    static void calls_512Makes_thoseThatAreRefusedToo() {
        Volume v = new Volume();
        for (int n = 1; n <= 8; n++) {
            due("make", v.make(0, n, 1), n);
        }
        while (v.callsLeft() > 1) {
            due("make", v.make(0, 50, 1), FULL);
        }
        due("INODES, by the 512th call", v.count(1), 9);
    }

    // "Of INODES 0 .. 11: .. PLACES 0 .. 7. Of BLOCKS 0 .. 39: DATA 0 .. 2, longs"

    static void inodes_11AreMadeAndTheTwelfthIsNot() {
        Volume v = Volumes.deep();
        due("INODES", v.count(1), 12);
        due("the greatest", v.find(10, 50), 11);
        due("one more", v.make(11, 1, 1), FULL);
    }

    static void inodes_dataThatLooksLikeATwelfthFileIsNone() {
        Volume v = Volumes.oneBlock(2, 3, 7);
        due("USED", v.count(0), 1);
        due("in place", v.count(4), 0);
        due("nothing to move", v.plan(0), NONE);
        due("INODES", v.count(1), 2);
        v.make(0, 2, 2);
        v.append(2, 30, 31, 32);
        due("the next BLOCK", v.inode(2, 2), 1);
    }

    static void inodes_dataThatLooksLikeATwelfthDirectoryIsNone() {
        Volume v = Volumes.oneBlock(1, 0, 205);
        due("ENTRIES", v.count(5), 1);
        v.cut(10);
        v.make(0, 2, 2);
        due("INODE 2 stands in no ENTRY", v.restart(), 1);
        due("KIND", v.inode(2, 0), 0);
        due("the DATA stay", v.readOf(1, 0, 2), 205);
    }

    static void inodes_dataThatLooksLikeAnotherEntryOfInode11IsNone() {
        Volume v = Volumes.fullInode11();
        v.append(2, 1050, 0, 0);
        due("ENTRIES", v.count(5), 10);
        v.cut(10);
        v.make(1, 50, 1);
        due("INODE 10 stands in no ENTRY", v.restart(), 1);
        due("KIND", v.inode(10, 0), 0);
        due("the DATA stay", v.readOf(2, 0, 0), 1050);
    }

    static void places_8OfADirectoryAnd8OfAFile() {
        Volume v = Volumes.fullDirectory();
        for (int n = 0; n < 7; n++) {
            v.append(2, 0, 0, 0);
        }
        due("ENTRY in PLACE 7", v.inode(1, 9), 909);
        due("BLOCK in PLACE 7", v.inode(2, 9), 7);
        due("a ninth ENTRY", v.make(1, 50, 2), FULL);
        due("a ninth BLOCK", v.append(2, 0, 0, 0), FULL);
    }

    static void blocks_40AreUsedAndThe41stIsNot() {
        Volume v = Volumes.noBlockInOrder();
        due("USED", v.count(0), 40);
        due("the greatest", v.inode(5, 9), 39);
        due("one more", v.append(6, 0, 0, 0), FULL);
    }

    static void data_eachOfThreeIsALongOfItsOwn() {
        for (int k = 0; k <= 2; k++) {
            Volume v = Volumes.twoFiles();
            v.put(1, 1, k, Long.MIN_VALUE);
            for (int other = 0; other <= 2; other++) {
                due("DATA " + other, v.dataOf(2, other), other == k ? Long.MIN_VALUE : 7 + other);
            }
        }
    }

    // "ENTRIES: 0 none, or 100 times an INODE and a NAME (1 .. 99)"

    static void entries_theLeastIs101AndTheGreatest1199() {
        Volume v = new Volume();
        v.make(0, 1, 1);
        due("the least", v.inode(0, 2), 101);
        for (int i = 2; i <= 8; i++) {
            v.make(0, i, 2);
        }
        v.make(1, 97, 2);
        v.make(1, 98, 2);
        v.make(1, 99, 2);
        due("the greatest", v.inode(1, 4), 1199);
        due("its INODE", v.find(1, 99), 11);
    }

    static void entries_name99OfOneInodeIsNotTheNextInode() {
        Volume v = new Volume();
        v.make(0, 99, 2);
        v.make(0, 1, 2);
        due("199", v.find(0, 99), 1);
        due("201", v.find(0, 1), 2);
        due("99 goes", v.remove(0, 99), 1);
        due("1 stays", v.find(0, 1), 2);
    }

    // "A BLOCK is USED if a FILE (an INODE of that KIND, wherever it stands) has it so; else FREE"

    static void used_aFileDeepDown() {
        Volume v = Volumes.deep();
        v.remove(10, 50);
        v.make(10, 50, 2);
        v.append(11, 1, 2, 3);
        due("USED", v.count(0), 1);
        due("in place", v.count(4), 0);
    }

    static void used_byAFileThatStandsNowhere_whileDown() {
        Volume v = Volumes.twoFiles();
        v.cut(1);
        v.remove(0, 1);
        due("USED", v.count(0), 3);
        due("the next step's BLOCK", v.plan(0), 1);
        due("to which", v.plan(1), 39);
        due("its BLOCKS are read", v.readOf(1, 1, 0), 7);
        due("its runs", v.runs(1), 2);
    }

    static void free_theBlockToWhichAMoveIsHalfDone() {
        Volume v = Volumes.twoFiles();
        v.cut(8);
        v.step();
        due("USED", v.count(0), 3);
        due("the next step's BLOCK to which", v.plan(1), 39);
        v.restart();
        due("USED", v.count(0), 3);
    }

    // "Refused, and nothing changes": a run of refused calls, each for another reason

    static void refused_nothingChangesBehindAllOfThem() {
        Volume v = Volumes.fullRoot();
        v.data(0, 1);
        v.cut(3);
        String before = v.state();
        due("make BAD", v.make(0, 0, 1), BAD);
        due("make TAKEN", v.make(0, 1, 1), TAKEN);
        due("make FULL", v.make(0, 50, 1), FULL);
        due("append BAD", v.append(0, 1, 1, 1), BAD);
        due("put BAD", v.put(3, 1, 0, 9), BAD);
        due("remove NONE", v.remove(0, 50), NONE);
        due("remove NO", v.remove(0, 1), NO);
        due("rename NONE", v.rename(0, 50, 0, 51), NONE);
        due("rename TAKEN", v.rename(0, 1, 0, 2), TAKEN);
        due("rename FULL", v.rename(0, 1, 0, 50), FULL);
        due("rename NO", v.rename(0, 1, 9, 50), NO);
        due("step 0", v.step(), 0);
        due("restart 0", v.restart(), 0);
        due("cut BAD", v.cut(41), BAD);
        due("data BAD", v.data(40, 0), BAD);
        due("read BAD", v.read(3, 1, 0), BAD);
        due("nothing has changed", v.state().equals(before) ? 1 : 0, 1);
    }
}
