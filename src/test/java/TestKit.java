import java.lang.reflect.InvocationTargetException;
import java.lang.reflect.Method;
import java.lang.reflect.Modifier;
import java.util.Map;
import java.util.TreeMap;
import java.util.function.Supplier;
import java.util.function.ToLongFunction;
import java.util.stream.IntStream;

/**
 * What the tests of the promises share. A test is a static method of a class below this one that is
 * not private and has no parameters; its name says which sentence of the document it holds.
 */
abstract class TestKit {
    static final int BAD = -1, DOWN = -2, NONE = -3, TAKEN = -4, FULL = -5, NO = -6;
    static final int MIN = Integer.MIN_VALUE, MAX = Integer.MAX_VALUE;

    private static final Check check = new Check();
    private static String test = "";

    static void run(Class<?> tests) throws IllegalAccessException {
        Map<String, Method> found = new TreeMap<>();
        for (Method m : tests.getDeclaredMethods()) {
            boolean isTest = !Modifier.isPrivate(m.getModifiers()) && m.getParameterCount() == 0;
            if (isTest && !m.isSynthetic()) {
                found.put(m.getName(), m);
            }
        }
        for (Method m : found.values()) {
            test = m.getName();
            try {
                m.invoke(null);
            } catch (InvocationTargetException e) {
                e.getCause().printStackTrace(System.out);
                check.due(tests.getName() + "." + test + " ended by an exception", 1, 0);
            }
        }
        System.out.println(found.size() + " tests");
        check.due("no test at all", found.isEmpty() ? 1 : 0, 0);
        check.end();
    }

    static void due(String what, long got, long want) {
        check.due(test + ": " + what, got, want);
    }

    /** The call answers so, and nothing has changed behind it, not even what cut() told or what was ASKED for. */
    static void keeps(String what, Supplier<Volume> start, ToLongFunction<Volume> call, long want) {
        Volume v = start.get();
        v.data(0, 0);
        v.cut(7);
        String before = v.state();
        due(what, call.applyAsLong(v), want);
        String after = v.state();
        if (!after.equals(before)) {
            System.out.println("before: " + before);
            System.out.println("after:  " + after);
            due(what + " has changed something", 1, 0);
        }
    }

    static long[] write(int word, long value) {
        return new long[] {word, value};
    }

    /** Cuts the act behind each number of its WRITES, and asks whether these are done and no others. */
    static void writes(Supplier<Volume> start, ToLongFunction<Volume> act, long answer, long[]... due) {
        int before = start.get().count(2);
        Words words = Words.of(start.get());
        for (int n = 0; n <= due.length; n++) {
            boolean whole = n == due.length;
            if (n > 0) {
                words.set((int) due[n - 1][0], due[n - 1][1]);
            }
            Volume v = start.get();
            v.cut(n);
            String at = "cut behind " + n + ", ";
            due(at + "the answer", act.applyAsLong(v), whole ? answer : DOWN);
            due(at + "isDown", v.isDown(), whole ? 0 : 1);
            due(at + "left", v.cut(NONE), whole ? 0 : NONE);
            due(at + "WRITES", v.count(2) - before, n);
            due(at + "digest", v.digest(), words.digest(whole ? 0 : 1));
        }
        Volume uncut = start.get();
        due("not cut, the answer", act.applyAsLong(uncut), answer);
        due("not cut, digest", uncut.digest(), words.digest(0));
        due("not cut, WRITES", uncut.count(2) - before, due.length);
    }

    /** Numbers that are none of 0 .. last, some of them good if bits of them were lost. */
    static int[] wrongNumbers(int last, int good) {
        int end = last + 1;
        int[] some = {-1, end, good - end, good + end, good + 32, good - 32, good + 64, good + 128, good + 256,
            good - 256, good + 65536, good - 65536, good ^ MIN, 429496730, 1431655766, MIN, MAX};
        return IntStream.of(some).filter(n -> n < 0 || n > last).toArray();
    }

    static int[] wrongInodes(int good) {
        return wrongNumbers(11, good);
    }

    /** Numbers that are none of 1 .. 99, some of them this NAME if bits or hundreds were lost. */
    static int[] wrongNames(int good) {
        return new int[] {0, 100, -1, -99, -good, good + 100, good - 100, good + 200, good + 256, good - 256,
            good + 65536, good ^ MIN, MIN, MAX};
    }
}
