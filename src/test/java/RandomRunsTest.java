import java.util.Random;

/** Runs of 512 calls from fixed seeds, each answer compared with the model's. */
public final class RandomRunsTest {
    private static final int RUNS = 1000;
    /** No round makes more calls than this, so that none is begun that could go beyond the last one. */
    private static final int MOST_CALLS_OF_A_ROUND = 6;
    private static final int ROUNDS_BETWEEN_ALL = 8;
    private static final Check check = new Check();

    private final Random random;
    private final Volume x = new Volume();
    private final Model m = new Model();
    /** How often a number may be one that is not as told: one in so many. */
    private final int wrongOneIn;
    private final int cutOneIn;
    private final int names;

    private RandomRunsTest(long seed) {
        random = new Random(seed);
        wrongOneIn = 10 + (int) (seed % 3) * 40;
        cutOneIn = 4 + (int) (seed % 5) * 12;
        names = seed % 2 == 0 ? 4 : 12;
    }

    public static void main(String[] args) {
        for (long seed = 0; seed < RUNS; seed++) {
            RandomRunsTest run = new RandomRunsTest(seed);
            for (int n = 0; run.x.callsLeft() >= MOST_CALLS_OF_A_ROUND; n++) {
                run.round("seed " + seed + ", round " + n + ": ", n % ROUNDS_BETWEEN_ALL == 0);
            }
        }
        check.end();
    }

    private int number(int from, int to) {
        if (random.nextInt(wrongOneIn) == 0) {
            int[] wrong = {from - 1, to + 1, -1, Integer.MIN_VALUE, Integer.MAX_VALUE};
            return wrong[random.nextInt(wrong.length)];
        }
        return from + random.nextInt(to - from + 1);
    }

    /** Mostly one of the kind, so that most calls are not BAD. */
    private int inodeOf(int kind) {
        int i = number(0, 11);
        for (int tries = 0; tries < 12 && i >= 0 && i <= 11 && m.inode(i, 0) != kind; tries++) {
            i = (i + 5) % 12;
        }
        return i;
    }

    private int name() {
        return number(1, random.nextInt(20) == 0 ? 99 : names);
    }

    private void round(String where, boolean all) {
        if (m.isDown() == 1 && random.nextInt(4) == 0) {
            check.due(where + "restart", x.restart(), m.restart());
        } else if (random.nextInt(cutOneIn) == 0) {
            int n = random.nextInt(6) == 0 ? -3 : number(0, random.nextBoolean() ? 12 : 40);
            check.due(where + "cut " + n, x.cut(n), m.cut(n));
        } else if (random.nextInt(3) > 0) {
            act(where);
        } else {
            question(where);
        }
        check.due(where + "digest", x.digest(), m.digest());
        if (all) {
            check.due(where + "tree", x.tree(), m.tree());
            check.due(where + "writes", x.count(2), m.count(2));
            check.due(where + "moves", x.count(3), m.count(3));
        }
    }

    private void act(String where) {
        int d = inodeOf(1);
        int to = inodeOf(1);
        int f = inodeOf(2);
        int name = name();
        int other = name();
        int p = number(0, random.nextBoolean() ? 1 : 7);
        int k = number(0, 2);
        long v = random.nextLong();
        String told = where + d + " " + to + " " + f + " " + name + " " + other + " " + p + " " + k + " ";
        switch (random.nextInt(16)) {
            case 0, 1, 2 -> {
                int kind = number(1, 2);
                check.due(told + "make " + kind, x.make(d, name, kind), m.make(d, name, kind));
            }
            case 3, 4, 5, 6, 7, 8 -> check.due(told + "append", x.append(f, v, p, ~v), m.append(f, v, p, ~v));
            case 9 -> check.due(told + "put", x.put(f, p, k, v), m.put(f, p, k, v));
            case 10 -> check.due(told + "remove", x.remove(d, name), m.remove(d, name));
            case 11, 12 -> check.due(told + "rename", x.rename(d, name, to, other), m.rename(d, name, to, other));
            case 13, 14 -> check.due(told + "step", x.step(), m.step());
            default -> check.due(told + "restart", x.restart(), m.restart());
        }
    }

    private void question(String where) {
        int d = inodeOf(1);
        int f = inodeOf(2);
        int name = name();
        int p = number(0, random.nextBoolean() ? 1 : 7);
        int k = number(0, 2);
        int what = number(0, 5);
        int block = number(0, 39);
        String told = where + d + " " + f + " " + name + " " + p + " " + k + " " + what + " " + block + " ";
        switch (random.nextInt(9)) {
            case 0 -> check.due(told + "isDown", x.isDown(), m.isDown());
            case 1 -> check.due(told + "find", x.find(d, name), m.find(d, name));
            case 2 -> check.due(told + "inode", x.inode(f, what * 2), m.inode(f, what * 2));
            case 3 -> check.due(told + "data", x.data(block, k), m.data(block, k));
            case 4 -> check.due(told + "read", x.read(f, p, k), m.read(f, p, k));
            case 5 -> check.due(told + "record", x.record(what), m.record(what));
            case 6 -> check.due(told + "plan", x.plan(what), m.plan(what));
            case 7 -> check.due(told + "runs", x.runs(f), m.runs(f));
            default -> check.due(told + "count", x.count(what), m.count(what));
        }
        check.due(told + "asked", x.asked(), m.asked());
    }
}
