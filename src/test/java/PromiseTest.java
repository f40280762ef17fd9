import java.util.TreeMap;

/** At least one test for each promise of the document: ordinary inputs, edges, wrong inputs. */
public final class PromiseTest {
    private static final int BAD = -1, DOWN = -2, NONE = -3, TAKEN = -4, FULL = -5, NO = -6;
    private static final int[] WRONG_INODES = {-1, 12, Integer.MIN_VALUE, Integer.MAX_VALUE};
    private static final Check check = new Check();

    private PromiseTest() {
    }

    private static void due(String what, long got, long want) {
        check.due(what, got, want);
    }

    public static void main(String[] args) {
        newObject();
        cut();
        cutCountsWrites();
        make();
        makeWritesInOrder();
        append();
        appendWritesInOrder();
        put();
        remove();
        removeWritesInOrder();
        rename();
        renameFullAndSame();
        renameIntoItself();
        renameWritesInOrder();
        step();
        stepWritesInOrder();
        stepFull();
        restart();
        restartOfDoubleEntries();
        restartCutAgain();
        isDown();
        downActsAndQuestions();
        find();
        inode();
        data();
        read();
        asked();
        record();
        plan();
        runs();
        count();
        countWhileDown();
        tree();
        treeWhileDown();
        digest();
        check.end();
    }

    // ---- volumes to begin with ----

    /** Files 1 and 2 in the root, with blocks 0, 2 and 1. */
    private static BlockMover twoFiles() {
        BlockMover x = new BlockMover();
        x.make(0, 1, 2);
        x.make(0, 2, 2);
        x.append(1, 1, 2, 3);
        x.append(2, 4, 5, 6);
        x.append(1, 7, 8, 9);
        return x;
    }

    /** Files 1 .. 5 of eight blocks each, so that no block is free; one behind the other, or in turns. */
    private static BlockMover noBlockFree(boolean inTurns) {
        BlockMover x = new BlockMover();
        for (int f = 1; f <= 5; f++) {
            due("make for fill", x.make(0, f, 2), f);
        }
        for (int n = 0; n < 40; n++) {
            int file = inTurns ? n % 5 + 1 : n / 8 + 1;
            due("append for fill", x.append(file, n, n + 100, n + 200), inTurns ? n / 5 + 1 : n % 8 + 1);
        }
        return x;
    }

    private static long askedOf(BlockMover x, int block, int k) {
        due("data(" + block + ", " + k + ")", x.data(block, k), 1);
        return x.asked();
    }

    // ---- the promises ----

    private static void newObject() {
        BlockMover x = new BlockMover();
        due("1 kind of root", x.inode(0, 0), 1);
        for (int i = 0; i < 12; i++) {
            for (int what = 0; what < 10; what++) {
                due("1 word of inode", x.inode(i, what), i == 0 && what == 0 ? 1 : 0);
            }
        }
        for (int b = 0; b < 40; b++) {
            for (int k = 0; k < 3; k++) {
                due("1 data", askedOf(x, b, k), 0);
            }
        }
        for (int what = 0; what < 4; what++) {
            due("1 record", x.record(what), 0);
        }
        due("1 isDown", x.isDown(), 0);
        due("1 inodes", x.count(1), 1);
        due("1 writes", x.count(2), 0);
        due("1 entries", x.count(5), 0);
        due("1 asked", new BlockMover().asked(), 0);
        due("1 cut", x.cut(NONE), NONE);
    }

    private static void cut() {
        BlockMover x = new BlockMover();
        due("2 first", x.cut(40), NONE);
        for (int wrong : new int[] {-1, -2, -4, 41, Integer.MIN_VALUE, Integer.MAX_VALUE}) {
            due("2 wrong", x.cut(wrong), BAD);
        }
        due("2 unchanged by BAD", x.cut(0), 40);
        due("2 told last", x.cut(NONE), 0);
        due("2 none told", x.cut(NONE), NONE);
        due("2 no failure after NONE", x.make(0, 1, 2), 1);
    }

    private static void cutCountsWrites() {
        BlockMover x = new BlockMover();
        x.cut(40);
        x.make(0, 1, 2);
        due("2 left behind make", x.cut(6), 29);
        x.append(1, 1, 2, 3);
        due("2 all done at n writes", x.isDown(), 0);
        x.put(1, 0, 0, 9);
        due("2 none left", x.cut(0), 0);
        due("2 write beyond n", x.put(1, 0, 0, 8), DOWN);
        due("2 not written", askedOf(x, 0, 0), 9);
        due("2 used up by the failure", x.cut(NONE), NONE);
        x = new BlockMover();
        x.cut(0);
        due("2 refusals write nothing", x.make(0, 0, 2), BAD);
        due("2 nor does step", x.step(), 0);
        due("2 nor restart", x.restart(), 0);
        due("2 still told", x.cut(NONE), 0);
    }

    private static void make() {
        BlockMover x = new BlockMover();
        due("3 first", x.make(0, 1, 1), 1);
        due("3 in it", x.make(1, 99, 2), 2);
        due("3 same name elsewhere", x.make(1, 1, 2), 3);
        due("3 taken", x.make(1, 99, 1), TAKEN);
        due("3 name 0", x.make(0, 0, 1), BAD);
        due("3 name 100", x.make(0, 100, 1), BAD);
        due("3 name 101", x.make(0, 101, 1), BAD);
        due("3 name -1", x.make(0, -1, 1), BAD);
        due("3 kind 0", x.make(0, 2, 0), BAD);
        due("3 kind 3", x.make(0, 2, 3), BAD);
        due("3 in a file", x.make(2, 2, 1), BAD);
        due("3 in none", x.make(7, 2, 1), BAD);
        for (int i : WRONG_INODES) {
            due("3 in " + i, x.make(i, 2, 1), BAD);
        }
        due("3 entry", x.inode(1, 2), 299);
        due("3 next entry", x.inode(1, 3), 301);
        due("3 removed", x.remove(1, 99), 2);
        due("3 least inode again", x.make(1, 50, 1), 2);
        due("3 least entry again", x.inode(1, 2), 250);
        for (int name = 10; name < 17; name++) {
            due("3 fill root", x.make(0, name, 2), name - 6);
        }
        due("3 taken ahead of full", x.make(0, 10, 2), TAKEN);
        due("3 eight entries", x.make(0, 20, 2), FULL);
        due("3 last inode", x.make(1, 60, 2), 11);
        due("3 no inode", x.make(1, 61, 2), FULL);
        due("3 taken ahead of no inode", x.make(1, 60, 2), TAKEN);
    }

    private static void makeWritesInOrder() {
        for (int n = 0; n <= 10; n++) {
            BlockMover x = new BlockMover();
            x.make(0, 7, 2);
            for (int b = 0; b < 8; b++) {
                x.append(1, 0, 0, 0);
            }
            x.remove(0, 7);
            x.cut(n);
            due("3 cut", x.make(0, 8, 1), DOWN);
            due("3 size at " + n, x.inode(1, 1), n >= 1 ? 0 : 8);
            for (int p = 0; p < 8; p++) {
                due("3 place at " + n, x.inode(1, 2 + p), n >= p + 2 ? 0 : p);
            }
            due("3 kind at " + n, x.inode(1, 0), n >= 10 ? 1 : 0);
            due("3 entry at " + n, x.inode(0, 2), 0);
            due("3 restart at " + n, x.restart(), n >= 10 ? 1 : 0);
            due("3 kind mended", x.inode(1, 0), 0);
        }
        BlockMover x = new BlockMover();
        x.cut(11);
        due("3 eleven writes", x.make(0, 8, 1), 1);
        due("3 none left", x.cut(NONE), 0);
    }

    private static void append() {
        BlockMover x = twoFiles();
        due("4 blocks of 1", x.inode(1, 2) * 100 + x.inode(1, 3), 2);
        due("4 block of 2", x.inode(2, 2), 1);
        due("4 data", askedOf(x, 2, 0) * 100 + askedOf(x, 2, 1) * 10 + askedOf(x, 2, 2), 789);
        due("4 long data", x.append(2, Long.MIN_VALUE, Long.MAX_VALUE, -1), 2);
        due("4 least long", askedOf(x, 3, 0), Long.MIN_VALUE);
        due("4 greatest long", askedOf(x, 3, 1), Long.MAX_VALUE);
        due("4 to root", x.append(0, 1, 1, 1), BAD);
        due("4 to none", x.append(3, 1, 1, 1), BAD);
        for (int i : WRONG_INODES) {
            due("4 to " + i, x.append(i, 1, 1, 1), BAD);
        }
        due("4 remove", x.remove(0, 1), 1);
        due("4 least free block", x.append(2, 1, 1, 1), 3);
        due("4 it is 0", x.inode(2, 4), 0);
        for (int n = 4; n <= 8; n++) {
            due("4 to eight", x.append(2, 0, 0, 0), n);
        }
        due("4 eight", x.append(2, 0, 0, 0), FULL);
        BlockMover full = noBlockFree(false);
        due("4 another file", full.make(0, 6, 2), 6);
        due("4 none free", full.append(6, 0, 0, 0), FULL);
        due("4 nothing changed", full.inode(6, 1), 0);
        due("4 free again", full.remove(0, 3), 3);
        due("4 then", full.append(6, 0, 0, 0), 1);
        due("4 least", full.inode(6, 2), 16);
    }

    private static void appendWritesInOrder() {
        for (int n = 0; n <= 5; n++) {
            BlockMover x = twoFiles();
            x.cut(n);
            due("4 cut", x.append(2, 11, 12, 13), n < 5 ? DOWN : 2);
            for (int k = 0; k < 3; k++) {
                due("4 data at " + n, askedOf(x, 3, k), n > k ? 11 + k : 0);
            }
            due("4 place at " + n, x.inode(2, 3), n >= 4 ? 3 : 0);
            due("4 size at " + n, x.inode(2, 1), n >= 5 ? 2 : 1);
            due("4 used at " + n, x.count(0), n >= 5 ? 4 : 3);
            due("4 writes at " + n, x.count(2), 37 + n);
        }
    }

    private static void put() {
        BlockMover x = twoFiles();
        due("5 put", x.put(1, 1, 2, -5), 1);
        due("5 put there", askedOf(x, 2, 2), -5);
        due("5 others", askedOf(x, 2, 1), 8);
        due("5 one write", x.count(2), 38);
        due("5 p -1", x.put(1, -1, 0, 0), BAD);
        due("5 p at size", x.put(1, 2, 0, 0), BAD);
        due("5 k -1", x.put(1, 0, -1, 0), BAD);
        due("5 k 3", x.put(1, 0, 3, 0), BAD);
        due("5 directory", x.put(0, 0, 0, 0), BAD);
        for (int i : WRONG_INODES) {
            due("5 file " + i, x.put(i, 0, 0, 0), BAD);
        }
        x.cut(0);
        due("5 cut", x.put(1, 0, 0, 77), DOWN);
        due("5 not done", askedOf(x, 0, 0), 1);
        due("5 down", x.put(1, 0, 0, 77), DOWN);
        due("5 BAD ahead of DOWN", x.put(1, 2, 0, 77), BAD);
    }

    private static void remove() {
        BlockMover x = new BlockMover();
        x.make(0, 1, 1);
        x.make(1, 2, 1);
        x.make(2, 3, 2);
        due("6 has entries", x.remove(0, 1), NO);
        due("6 deeper has entries", x.remove(1, 2), NO);
        due("6 no such name", x.remove(0, 2), NONE);
        due("6 name 0", x.remove(0, 0), BAD);
        due("6 name 100", x.remove(0, 100), BAD);
        due("6 in a file", x.remove(3, 1), BAD);
        for (int i : WRONG_INODES) {
            due("6 in " + i, x.remove(i, 1), BAD);
        }
        due("6 file", x.remove(2, 3), 3);
        due("6 gone", x.remove(2, 3), NONE);
        due("6 empty directory", x.remove(1, 2), 2);
        due("6 and above", x.remove(0, 1), 1);
        due("6 inodes", x.count(1), 1);
        due("6 not a directory any more", x.remove(1, 2), BAD);
        x.make(0, 1, 1);
        x.make(0, 2, 1);
        due("6 entries of its own alone", x.remove(0, 1), 1);
        BlockMover y = twoFiles();
        due("6 with blocks", y.remove(0, 1), 1);
        due("6 size stays", y.inode(1, 1), 2);
        due("6 places stay", y.inode(1, 3), 2);
        due("6 blocks are free", y.count(0), 1);
        due("6 file is none", y.append(1, 0, 0, 0), BAD);
    }

    private static void removeWritesInOrder() {
        for (int n = 0; n <= 2; n++) {
            BlockMover x = twoFiles();
            x.cut(n);
            due("6 cut", x.remove(0, 1), n < 2 ? DOWN : 1);
            due("6 entry at " + n, x.inode(0, 2), n >= 1 ? 0 : 101);
            due("6 kind at " + n, x.inode(1, 0), n >= 2 ? 0 : 2);
            due("6 used at " + n, x.count(0), n >= 2 ? 1 : 3);
            due("6 restart at " + n, x.restart(), n == 1 ? 1 : 0);
            due("6 kind mended at " + n, x.inode(1, 0), n >= 1 ? 0 : 2);
        }
    }

    private static void rename() {
        BlockMover x = new BlockMover();
        x.make(0, 1, 1);
        x.make(0, 2, 2);
        x.make(1, 3, 2);
        due("7 to another", x.rename(0, 2, 1, 9), 2);
        due("7 old", x.find(0, 2), NONE);
        due("7 new", x.find(1, 9), 2);
        due("7 least entry", x.inode(1, 3), 209);
        due("7 same directory", x.rename(1, 3, 1, 4), 3);
        due("7 least ahead of it all", x.inode(1, 4), 304);
        due("7 old entry none", x.inode(1, 2), 0);
        due("7 two writes each", x.count(2), 37);
        due("7 no such name", x.rename(0, 2, 1, 8), NONE);
        due("7 NONE ahead of TAKEN", x.rename(0, 2, 1, 9), NONE);
        due("7 taken", x.rename(1, 4, 0, 1), TAKEN);
        due("7 taken by itself", x.rename(1, 4, 1, 4), TAKEN);
        due("7 TAKEN ahead of NO", x.rename(0, 1, 1, 9), TAKEN);
        int[] wrongNames = {0, 100, -1, 104, Integer.MIN_VALUE, Integer.MAX_VALUE};
        for (int name : wrongNames) {
            due("7 name " + name, x.rename(1, name, 0, 5), BAD);
            due("7 other " + name, x.rename(1, 4, 0, name), BAD);
        }
        for (int i : WRONG_INODES) {
            due("7 from " + i, x.rename(i, 4, 0, 5), BAD);
            due("7 to " + i, x.rename(1, 4, i, 5), BAD);
        }
        due("7 from a file", x.rename(2, 4, 0, 5), BAD);
        due("7 to a file", x.rename(1, 4, 2, 5), BAD);
        due("7 to a kind 0", x.rename(1, 4, 5, 5), BAD);
    }

    private static void renameFullAndSame() {
        BlockMover x = new BlockMover();
        for (int name = 1; name <= 8; name++) {
            x.make(0, name, name == 1 ? 1 : 2);
        }
        due("7 eight in the same", x.rename(0, 2, 0, 9), FULL);
        due("7 TAKEN ahead of FULL", x.rename(0, 2, 0, 3), TAKEN);
        x.make(1, 1, 2);
        due("7 eight in the other", x.rename(1, 1, 0, 9), FULL);
        due("7 out of a full one", x.rename(0, 2, 1, 9), 2);
        due("7 room now", x.rename(0, 3, 0, 9), 3);
    }

    private static void renameIntoItself() {
        BlockMover x = new BlockMover();
        x.make(0, 1, 1);
        x.make(1, 1, 1);
        x.make(2, 1, 1);
        x.make(0, 2, 1);
        due("7 into itself", x.rename(0, 1, 1, 5), NO);
        due("7 one deep", x.rename(0, 1, 2, 5), NO);
        due("7 two deep", x.rename(0, 1, 3, 5), NO);
        due("7 beside it", x.rename(0, 1, 4, 5), 1);
        due("7 now within", x.rename(0, 2, 3, 5), NO);
        due("7 upward", x.rename(2, 1, 0, 5), 3);
        due("7 not within now", x.rename(0, 2, 3, 5), 4);
        for (int name = 10; name < 17; name++) {
            due("7 fill", x.make(1, name, 2), name - 5);
        }
        due("7 FULL ahead of NO", x.rename(0, 5, 1, 20), FULL);
        x.remove(1, 10);
        due("7 NO", x.rename(0, 5, 1, 20), NO);
    }

    private static void renameWritesInOrder() {
        for (int n = 0; n <= 2; n++) {
            BlockMover x = twoFiles();
            x.cut(n);
            due("7 cut", x.rename(0, 1, 0, 3), n < 2 ? DOWN : 1);
            due("7 new at " + n, x.inode(0, 4), n >= 1 ? 103 : 0);
            due("7 old at " + n, x.inode(0, 2), n >= 2 ? 0 : 101);
            due("7 restart at " + n, x.restart(), n == 1 ? 1 : 0);
            due("7 entries at " + n, x.count(5), 2);
            due("7 first entry stays at " + n, x.find(0, 1), n >= 2 ? NONE : 1);
        }
    }

    private static void step() {
        BlockMover x = twoFiles();
        long tree = x.tree();
        due("8 away", x.step(), 1);
        due("8 to the greatest free", x.inode(2, 2), 39);
        due("8 into place", x.step(), 1);
        due("8 at 1", x.inode(1, 3), 1);
        due("8 last", x.step(), 1);
        due("8 at 2", x.inode(2, 2), 2);
        due("8 none left", x.step(), 0);
        due("8 ten writes each", x.count(2), 67);
        due("8 moves", x.count(3), 3);
        due("8 tree stays", x.tree(), tree);
        due("8 new volume", new BlockMover().step(), 0);
        x.remove(0, 1);
        due("8 g is free", x.step(), 1);
        due("8 moved to 0", x.inode(2, 2), 0);
        due("8 done", x.step(), 0);
    }

    private static void stepWritesInOrder() {
        for (int n = 0; n <= 10; n++) {
            BlockMover x = twoFiles();
            long tree = x.tree();
            x.cut(n);
            due("8 cut", x.step(), n < 10 ? DOWN : 1);
            due("8 inode at " + n, x.record(1), n >= 1 ? 2 : 0);
            due("8 block at " + n, x.record(3), n >= 3 ? 39 : 0);
            due("8 state at " + n, x.record(0), n < 4 || n >= 10 ? 0 : n < 8 ? 1 : 2);
            for (int k = 0; k < 3; k++) {
                due("8 data at " + n, askedOf(x, 39, k), n >= 5 + k ? 4 + k : 0);
            }
            due("8 place at " + n, x.inode(2, 2), n >= 9 ? 39 : 1);
            due("8 moves at " + n, x.count(3), n >= 10 ? 1 : 0);
            due("8 tree at " + n, x.tree(), tree);
        }
        BlockMover x = twoFiles();
        x.step();
        x.cut(2);
        due("8 second", x.step(), DOWN);
        due("8 its inode", x.record(1), 1);
        due("8 its place", x.record(2), 1);
        due("8 not yet its block", x.record(3), 39);
    }

    private static void stepFull() {
        BlockMover x = noBlockFree(true);
        long digest = x.digest();
        due("8 none free", x.step(), FULL);
        due("8 nothing changed", x.digest(), digest);
        due("17 none free", x.plan(0), FULL);
        x.cut(0);
        due("8 cut", x.put(1, 0, 0, 0), DOWN);
        due("8 DOWN ahead of FULL", x.step(), DOWN);
        BlockMover y = noBlockFree(false);
        due("8 all in place and none free", y.step(), 0);
        due("17 all in place and none free", y.plan(0), NONE);
        BlockMover z = noBlockFree(true);
        z.remove(0, 5);
        long tree = z.tree();
        int steps = 0;
        while (steps < 200 && z.step() == 1) {
            steps++;
        }
        due("8 all laid", z.count(4), 0);
        due("8 tree stays", z.tree(), tree);
        for (int f = 1; f <= 4; f++) {
            due("8 one run", z.runs(f), 1);
        }
    }

    private static void restart() {
        due("9 new", new BlockMover().restart(), 0);
        for (int n = 0; n < 10; n++) {
            BlockMover x = twoFiles();
            long tree = x.tree();
            x.cut(n);
            x.step();
            due("9 writes at " + n, x.restart(), n < 4 ? 0 : n < 8 ? 6 : 2);
            due("9 up", x.isDown(), 0);
            due("9 moves at " + n, x.count(3), n < 4 ? 0 : 1);
            due("9 state at " + n, x.record(0), 0);
            due("9 place at " + n, x.inode(2, 2), n < 4 ? 1 : 39);
            due("9 tree at " + n, x.tree(), tree);
            due("9 again", x.restart(), 0);
            due("9 all writes at " + n, x.count(2), 37 + n + (n < 4 ? 0 : n < 8 ? 6 : 2));
        }
    }

    private static void restartOfDoubleEntries() {
        BlockMover x = new BlockMover();
        x.make(0, 1, 1);
        x.make(0, 2, 1);
        x.make(2, 5, 2);
        x.cut(1);
        due("9 rename to a lesser directory", x.rename(2, 5, 1, 6), DOWN);
        due("9 entries", x.count(5), 4);
        due("9 one ends", x.restart(), 1);
        due("9 the first stays", x.find(1, 6), 3);
        due("9 the later goes", x.find(2, 5), NONE);
        x.cut(1);
        due("9 and to a greater one", x.rename(1, 6, 2, 7), DOWN);
        due("9 one ends again", x.restart(), 1);
        due("9 the first stays again", x.find(1, 6), 3);
        due("9 the later goes again", x.find(2, 7), NONE);
        x.make(1, 8, 1);
        x.remove(1, 6);
        x.cut(1);
        due("9 in the same directory", x.rename(1, 8, 1, 9), DOWN);
        due("9 lesser place stays", x.restart(), 1);
        due("9 new name stays", x.find(1, 9), 4);
        due("9 old name goes", x.find(1, 8), NONE);
    }

    private static void restartCutAgain() {
        BlockMover x = twoFiles();
        long tree = x.tree();
        x.cut(4);
        due("9 cut step", x.step(), DOWN);
        for (int n = 0; n < 4; n++) {
            x.cut(n);
            due("9 cut in restart", x.restart(), DOWN);
            due("9 still down", x.isDown(), 1);
            due("9 cut is used up", x.cut(NONE), NONE);
            due("9 state stays 1", x.record(0), 1);
        }
        x.cut(4);
        due("9 behind STATE 2", x.restart(), DOWN);
        due("9 state 2", x.record(0), 2);
        due("9 no move yet", x.count(3), 0);
        x.cut(1);
        due("9 behind the PLACE", x.restart(), DOWN);
        due("9 place", x.inode(2, 2), 39);
        due("9 tree", x.tree(), tree);
        x.cut(2);
        due("9 done at last", x.restart(), 2);
        due("9 cut left", x.cut(NONE), 0);
        due("9 one move", x.count(3), 1);
        BlockMover y = twoFiles();
        y.cut(1);
        y.remove(0, 1);
        y.cut(0);
        due("9 cut at an inode", y.restart(), DOWN);
        due("9 still there", y.inode(1, 0), 2);
        due("9 then", y.restart(), 1);
    }

    private static void isDown() {
        BlockMover x = twoFiles();
        due("10 up", x.isDown(), 0);
        x.cut(0);
        due("10 up still", x.isDown(), 0);
        x.put(1, 0, 0, 0);
        due("10 down", x.isDown(), 1);
        x.cut(NONE);
        due("10 cut does not mend", x.isDown(), 1);
        x.restart();
        due("10 up again", x.isDown(), 0);
    }

    private static void downActsAndQuestions() {
        BlockMover x = twoFiles();
        x.make(0, 3, 1);
        x.cut(0);
        x.step();
        long digest = x.digest();
        due("DOWN make", x.make(0, 9, 2), DOWN);
        due("DOWN ahead of TAKEN", x.make(0, 1, 2), DOWN);
        due("BAD ahead of DOWN make", x.make(0, 0, 2), BAD);
        due("DOWN append", x.append(1, 0, 0, 0), DOWN);
        due("BAD ahead of DOWN append", x.append(0, 0, 0, 0), BAD);
        due("DOWN remove", x.remove(0, 1), DOWN);
        due("DOWN ahead of NONE", x.remove(0, 9), DOWN);
        due("BAD ahead of DOWN remove", x.remove(1, 1), BAD);
        due("DOWN rename", x.rename(0, 1, 3, 9), DOWN);
        due("DOWN ahead of NO", x.rename(0, 3, 3, 9), DOWN);
        due("BAD ahead of DOWN rename", x.rename(0, 1, 3, 0), BAD);
        due("DOWN step", x.step(), DOWN);
        due("nothing changed", x.digest(), digest);
        due("down find", x.find(0, 1), 1);
        due("down read", x.read(1, 1, 0), 1);
        due("down asked", x.asked(), 7);
        due("down runs", x.runs(1), 2);
        due("down plan", x.plan(1), 39);
        due("down cut", x.cut(5), NONE);
    }

    private static void find() {
        BlockMover x = new BlockMover();
        x.make(0, 99, 1);
        x.make(1, 1, 2);
        due("11 find", x.find(0, 99), 1);
        due("11 find in it", x.find(1, 1), 2);
        due("11 none", x.find(0, 1), NONE);
        due("11 name 0", x.find(0, 0), BAD);
        due("11 name 100", x.find(0, 100), BAD);
        due("11 name -99", x.find(0, -99), BAD);
        due("11 in a file", x.find(2, 1), BAD);
        due("11 in none", x.find(3, 1), BAD);
        for (int i : WRONG_INODES) {
            due("11 in " + i, x.find(i, 1), BAD);
        }
    }

    private static void inode() {
        BlockMover x = twoFiles();
        due("12 kind", x.inode(1, 0), 2);
        due("12 size", x.inode(1, 1), 2);
        due("12 place 1", x.inode(1, 3), 2);
        due("12 entry 1", x.inode(0, 3), 202);
        due("12 last", x.inode(11, 9), 0);
        due("12 what -1", x.inode(0, -1), BAD);
        due("12 what 10", x.inode(0, 10), BAD);
        for (int i : WRONG_INODES) {
            due("12 of " + i, x.inode(i, 0), BAD);
            due("12 what " + i, x.inode(1, i), BAD);
        }
    }

    private static void data() {
        BlockMover x = twoFiles();
        due("13 used", askedOf(x, 1, 2), 6);
        due("13 free", askedOf(x, 39, 2), 0);
        due("13 asked", askedOf(x, 0, 1), 2);
        int[] wrongBlocks = {-1, 40, Integer.MIN_VALUE, Integer.MAX_VALUE};
        int[] wrongData = {-1, 3, Integer.MIN_VALUE, Integer.MAX_VALUE};
        for (int n = 0; n < 4; n++) {
            due("13 block " + wrongBlocks[n], x.data(wrongBlocks[n], 0), BAD);
            due("13 k " + wrongData[n], x.data(0, wrongData[n]), BAD);
        }
        due("13 asked stays", x.asked(), 2);
    }

    private static void read() {
        BlockMover x = twoFiles();
        due("14 read", x.read(1, 1, 2), 1);
        due("14 asked", x.asked(), 9);
        due("14 p -1", x.read(1, -1, 0), BAD);
        due("14 p at size", x.read(1, 2, 0), BAD);
        due("14 k -1", x.read(1, 0, -1), BAD);
        due("14 k 3", x.read(1, 0, 3), BAD);
        due("14 directory", x.read(0, 0, 0), BAD);
        due("14 none", x.read(3, 0, 0), BAD);
        for (int i : WRONG_INODES) {
            due("14 of " + i, x.read(i, 0, 0), BAD);
        }
        due("14 asked stays", x.asked(), 9);
        x.step();
        due("14 behind a move", x.read(2, 0, 1), 1);
        due("14 as before", x.asked(), 5);
    }

    private static void asked() {
        BlockMover x = twoFiles();
        due("15 before", x.asked(), 0);
        x.put(1, 0, 0, Long.MIN_VALUE);
        x.read(1, 0, 0);
        due("15 long", x.asked(), Long.MIN_VALUE);
        x.put(1, 0, 0, 4);
        due("15 what it was", x.asked(), Long.MIN_VALUE);
        x.data(0, 0);
        due("15 last", x.asked(), 4);
        due("15 again", x.asked(), 4);
    }

    private static void record() {
        BlockMover x = twoFiles();
        x.step();
        due("16 state", x.record(0), 0);
        due("16 inode", x.record(1), 2);
        due("16 place", x.record(2), 0);
        due("16 block", x.record(3), 39);
        x.step();
        due("16 inode then", x.record(1), 1);
        due("16 place then", x.record(2), 1);
        due("16 block then", x.record(3), 1);
        for (int wrong : new int[] {-1, 4, Integer.MIN_VALUE, Integer.MAX_VALUE}) {
            due("16 what " + wrong, x.record(wrong), BAD);
        }
    }

    private static void plan() {
        BlockMover x = twoFiles();
        long digest = x.digest();
        int[] away = {1, 39, 2, 0};
        for (int what = 0; what < 4; what++) {
            due("17 away " + what, x.plan(what), away[what]);
        }
        due("17 nothing changed", x.digest(), digest);
        x.step();
        int[] home = {2, 1, 1, 1};
        for (int what = 0; what < 4; what++) {
            due("17 home " + what, x.plan(what), home[what]);
        }
        x.step();
        x.step();
        for (int what = 0; what < 4; what++) {
            due("17 nothing", x.plan(what), NONE);
        }
        for (int wrong : new int[] {-1, 4, Integer.MIN_VALUE, Integer.MAX_VALUE}) {
            due("17 what " + wrong, x.plan(wrong), BAD);
            due("17 what of full " + wrong, noBlockFree(true).plan(wrong), BAD);
        }
    }

    private static void runs() {
        BlockMover x = twoFiles();
        x.make(0, 3, 2);
        due("18 no blocks", x.runs(3), 0);
        due("18 two", x.runs(1), 2);
        due("18 one", x.runs(2), 1);
        x.append(1, 0, 0, 0);
        due("18 goes on", x.runs(1), 2);
        x.step();
        due("18 moved away", x.runs(2), 1);
        x.append(2, 0, 0, 0);
        due("18 backwards is no run", x.runs(2), 2);
        due("18 root", x.runs(0), BAD);
        due("18 none", x.runs(4), BAD);
        for (int i : WRONG_INODES) {
            due("18 of " + i, x.runs(i), BAD);
        }
    }

    private static void count() {
        BlockMover x = twoFiles();
        x.make(0, 3, 1);
        x.make(3, 1, 1);
        int[] first = {3, 5, 59, 0, 2, 4};
        for (int what = 0; what < 6; what++) {
            due("19 count " + what, x.count(what), first[what]);
        }
        x.step();
        x.step();
        x.step();
        x.remove(3, 1);
        int[] then = {3, 4, 91, 3, 0, 3};
        for (int what = 0; what < 6; what++) {
            due("19 then " + what, x.count(what), then[what]);
        }
        for (int wrong : new int[] {-1, 6, Integer.MIN_VALUE, Integer.MAX_VALUE}) {
            due("19 what " + wrong, x.count(wrong), BAD);
        }
        due("19 all used", noBlockFree(false).count(0), 40);
        due("19 in turns", noBlockFree(true).count(4), 38);
    }

    private static void countWhileDown() {
        BlockMover x = twoFiles();
        x.cut(1);
        x.remove(0, 1);
        due("19 a file that stands nowhere", x.count(0), 3);
        due("19 its inode", x.count(1), 3);
        due("19 entries", x.count(5), 1);
        x.restart();
        due("19 mended", x.count(0), 1);
        due("19 its blocks count no more", x.count(4), 1);
    }

    private static void tree() {
        due("20 empty", new BlockMover().tree(), (5 * 31 + 1) * 31 + 9);
        BlockMover x = new BlockMover();
        x.make(0, 9, 2);
        x.append(1, 7, -8, Long.MAX_VALUE);
        x.make(0, 4, 1);
        x.make(2, 30, 2);
        x.make(2, 20, 1);
        due("20 by names", x.tree(), treeOf(x));
        long h = 5 * 31 + 1;
        h = h * 31 + 4;
        h = h * 31 + 1;
        h = (h * 31 + 20) * 31 + 1;
        h = h * 31 + 9;
        h = ((h * 31 + 30) * 31 + 2) * 31;
        h = h * 31 + 9;
        h = ((h * 31 + 9) * 31 + 2) * 31 + 1;
        h = ((h * 31 + 7) * 31 - 8) * 31 + Long.MAX_VALUE;
        h = h * 31 + 9;
        due("20 as told", x.tree(), h);
        BlockMover deep = new BlockMover();
        for (int d = 0; d < 11; d++) {
            due("20 deep", deep.make(d, 50, 1), d + 1);
        }
        due("20 eleven deep", deep.tree(), treeOf(deep));
        BlockMover wide = new BlockMover();
        for (int n = 1; n <= 8; n++) {
            due("20 wide", wide.make(0, 100 - 11 * n, 2), n);
        }
        due("20 eight entries", wide.tree(), treeOf(wide));
    }

    private static void treeWhileDown() {
        BlockMover x = twoFiles();
        x.make(0, 50, 1);
        long before = x.tree();
        x.cut(1);
        due("20 rename cut", x.rename(0, 1, 3, 5), DOWN);
        due("20 first come to", x.tree(), before);
        x.restart();
        due("20 mended", x.tree(), before);
        x.cut(1);
        due("20 rename cut again", x.rename(0, 2, 0, 99), DOWN);
        due("20 first by names", x.tree(), before);
        x.restart();
        x.cut(10);
        due("20 make cut", x.make(0, 60, 2), DOWN);
        due("20 stands nowhere", x.tree(), before);
        x.restart();
        x.cut(1);
        due("20 remove cut", x.remove(0, 1), DOWN);
        due("20 as mended", x.tree(), treeOf(x));
    }

    private static long treeOf(BlockMover x) {
        return hashOf(x, 0, 5);
    }

    /** The tree by the other calls of the face, where no inode stands twice. */
    private static long hashOf(BlockMover x, int i, long before) {
        if (x.inode(i, 0) == 2) {
            long h = (before * 31 + 2) * 31 + x.inode(i, 1);
            for (int p = 0; p < x.inode(i, 1); p++) {
                for (int k = 0; k < 3; k++) {
                    x.read(i, p, k);
                    h = h * 31 + x.asked();
                }
            }
            return h;
        }
        TreeMap<Integer, Integer> entries = new TreeMap<>();
        for (int p = 2; p < 10; p++) {
            if (x.inode(i, p) != 0) {
                entries.put(x.inode(i, p) % 100, x.inode(i, p) / 100);
            }
        }
        long h = before * 31 + 1;
        for (int name : entries.keySet()) {
            h = hashOf(x, entries.get(name), h * 31 + name);
        }
        return h * 31 + 9;
    }

    private static void digest() {
        BlockMover x = twoFiles();
        due("21 up", x.digest(), digestOf(x));
        x.step();
        due("21 behind a step", x.digest(), digestOf(x));
        x.cut(6);
        x.step();
        due("21 down", x.digest(), digestOf(x));
        due("21 is down", x.isDown(), 1);
        due("21 new", new BlockMover().digest(), digestOf(new BlockMover()));
    }

    private static long digestOf(BlockMover x) {
        long h = 3;
        for (int i = 0; i < 12; i++) {
            for (int what = 0; what < 10; what++) {
                h = 31 * h + x.inode(i, what);
            }
        }
        for (int b = 0; b < 40; b++) {
            for (int k = 0; k < 3; k++) {
                x.data(b, k);
                h = 31 * h + x.asked();
            }
        }
        for (int what = 0; what < 4; what++) {
            h = 31 * h + x.record(what);
        }
        return 31 * h + x.isDown();
    }
}
