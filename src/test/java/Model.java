import java.util.ArrayList;
import java.util.LinkedHashMap;
import java.util.HashSet;
import java.util.List;
import java.util.Map;
import java.util.Set;
import java.util.TreeMap;

/**
 * The document once more, in another form: an act is first put down as the row of its writes,
 * a restart as the next write that is due, and only then does the power have its say.
 */
final class Model {
    static final int BAD = -1, DOWN = -2, NONE = -3, TAKEN = -4, FULL = -5, NO = -6;

    /** Words by name: "kind 3", "size 3", "place 3 7", "data 39 2", "record 0"; 0 if not there. */
    private final Map<String, Long> words = new LinkedHashMap<>();
    private final List<String> rowNames = new ArrayList<>();
    private final List<Long> rowValues = new ArrayList<>();
    private int left = NONE;
    private boolean down;
    private long asked;
    private int writes;
    private int moves;

    Model() {
        words.put("kind 0", 1L);
    }

    private int get(String name) {
        return words.getOrDefault(name, 0L).intValue();
    }

    private int kind(int i) {
        return get("kind " + i);
    }

    private int size(int i) {
        return get("size " + i);
    }

    private int place(int i, int p) {
        return get("place " + i + " " + p);
    }

    private void row(String name, long value) {
        rowNames.add(name);
        rowValues.add(value);
    }

    private boolean writeOne(String name, long value) {
        if (left == 0) {
            left = NONE;
            down = true;
            return false;
        }
        left = left == NONE ? NONE : left - 1;
        boolean endsMove = name.equals("record 0") && value == 0;
        words.put(name, value);
        writes++;
        moves += endsMove ? 1 : 0;
        return true;
    }

    private int writeRow(int answer) {
        boolean on = true;
        for (int n = 0; n < rowNames.size() && on; n++) {
            on = writeOne(rowNames.get(n), rowValues.get(n));
        }
        rowNames.clear();
        rowValues.clear();
        return on ? answer : DOWN;
    }

    private boolean is(int i, int kind) {
        return i >= 0 && i <= 11 && kind(i) == kind;
    }

    private static boolean name(int n) {
        return n >= 1 && n <= 99;
    }

    private TreeMap<Integer, Integer> placesByName(int directory) {
        TreeMap<Integer, Integer> found = new TreeMap<>();
        for (int p = 0; p < 8; p++) {
            if (place(directory, p) != 0) {
                found.put(place(directory, p) % 100, p);
            }
        }
        return found;
    }

    private int freeEntry(int directory) {
        int p = 0;
        while (p < 8 && place(directory, p) != 0) {
            p++;
        }
        return p;
    }

    /** {inode, place} of each block of a file, in the order in which they ought to lie. */
    private List<int[]> blocks() {
        List<int[]> found = new ArrayList<>();
        for (int i = 0; i < 12; i++) {
            for (int p = 0; kind(i) == 2 && p < size(i); p++) {
                found.add(new int[] {i, p});
            }
        }
        return found;
    }

    private List<Integer> freeBlocks() {
        List<Integer> free = new ArrayList<>();
        for (int b = 0; b < 40; b++) {
            free.add(b);
        }
        for (int[] at : blocks()) {
            free.remove((Integer) place(at[0], at[1]));
        }
        return free;
    }

    int cut(int n) {
        if (n != NONE && (n < 0 || n > 40)) {
            return BAD;
        }
        int before = left;
        left = n;
        return before;
    }

    int make(int directory, int name, int kind) {
        if (!is(directory, 1) || !name(name) || kind < 1 || kind > 2) {
            return BAD;
        }
        if (down) {
            return DOWN;
        }
        if (placesByName(directory).containsKey(name)) {
            return TAKEN;
        }
        int i = 0;
        while (i < 12 && kind(i) != 0) {
            i++;
        }
        if (i == 12 || freeEntry(directory) == 8) {
            return FULL;
        }
        row("size " + i, 0);
        for (int p = 0; p < 8; p++) {
            row("place " + i + " " + p, 0);
        }
        row("kind " + i, kind);
        row("place " + directory + " " + freeEntry(directory), 100 * i + name);
        return writeRow(i);
    }

    int append(int file, long a, long b, long c) {
        if (!is(file, 2)) {
            return BAD;
        }
        if (down) {
            return DOWN;
        }
        if (size(file) == 8 || freeBlocks().isEmpty()) {
            return FULL;
        }
        int block = freeBlocks().get(0);
        row("data " + block + " 0", a);
        row("data " + block + " 1", b);
        row("data " + block + " 2", c);
        row("place " + file + " " + size(file), block);
        row("size " + file, size(file) + 1);
        return writeRow(size(file) + 1);
    }

    int put(int file, int p, int k, long v) {
        if (!is(file, 2) || p < 0 || p >= size(file) || k < 0 || k > 2) {
            return BAD;
        }
        if (down) {
            return DOWN;
        }
        row("data " + place(file, p) + " " + k, v);
        return writeRow(1);
    }

    int remove(int directory, int name) {
        if (!is(directory, 1) || !name(name)) {
            return BAD;
        }
        if (down) {
            return DOWN;
        }
        Integer p = placesByName(directory).get(name);
        if (p == null) {
            return NONE;
        }
        int i = place(directory, p) / 100;
        if (kind(i) == 1 && !placesByName(i).isEmpty()) {
            return NO;
        }
        row("place " + directory + " " + p, 0);
        row("kind " + i, 0);
        return writeRow(i);
    }

    private boolean below(int top, int sought) {
        if (top == sought) {
            return true;
        }
        boolean found = false;
        if (kind(top) == 1) {
            for (int p : placesByName(top).values()) {
                found |= below(place(top, p) / 100, sought);
            }
        }
        return found;
    }

    int rename(int directory, int name, int to, int other) {
        if (!is(directory, 1) || !name(name) || !is(to, 1) || !name(other)) {
            return BAD;
        }
        if (down) {
            return DOWN;
        }
        Integer p = placesByName(directory).get(name);
        if (p == null) {
            return NONE;
        }
        if (placesByName(to).containsKey(other)) {
            return TAKEN;
        }
        if (freeEntry(to) == 8) {
            return FULL;
        }
        int i = place(directory, p) / 100;
        if (kind(i) == 1 && below(i, to)) {
            return NO;
        }
        row("place " + to + " " + freeEntry(to), 100 * i + other);
        row("place " + directory + " " + p, 0);
        return writeRow(i);
    }

    /** {from, to, inode, place}; or {NONE} or {FULL}. */
    private int[] next() {
        List<int[]> all = blocks();
        List<Integer> free = freeBlocks();
        for (int g = 0; g < all.size(); g++) {
            int[] at = all.get(g);
            if (place(at[0], at[1]) == g) {
                continue;
            }
            if (free.contains(g)) {
                return new int[] {place(at[0], at[1]), g, at[0], at[1]};
            }
            if (free.isEmpty()) {
                return new int[] {FULL};
            }
            for (int[] there : all) {
                if (place(there[0], there[1]) == g) {
                    return new int[] {g, free.get(free.size() - 1), there[0], there[1]};
                }
            }
        }
        return new int[] {NONE};
    }

    int step() {
        if (down) {
            return DOWN;
        }
        int[] move = next();
        if (move.length == 1) {
            return move[0] == NONE ? 0 : FULL;
        }
        row("record 1", move[2]);
        row("record 2", move[3]);
        row("record 3", move[1]);
        row("record 0", 1);
        rowOfCopy(move[0], move[1]);
        rowOfLink(move[2], move[3], move[1]);
        return writeRow(1);
    }

    private void rowOfCopy(int from, int to) {
        for (int k = 0; k < 3; k++) {
            row("data " + to + " " + k, words.getOrDefault("data " + from + " " + k, 0L));
        }
        row("record 0", 2);
    }

    private void rowOfLink(int i, int p, int to) {
        row("place " + i + " " + p, to);
        row("record 0", 0);
    }

    int restart() {
        int before = writes;
        int i = get("record 1");
        int p = get("record 2");
        if (get("record 0") == 1) {
            rowOfCopy(place(i, p), get("record 3"));
        }
        if (get("record 0") != 0) {
            rowOfLink(i, p, get("record 3"));
        }
        if (writeRow(1) == DOWN) {
            return DOWN;
        }
        for (String wrong = wrongWord(); wrong != null; wrong = wrongWord()) {
            if (!writeOne(wrong, 0)) {
                return DOWN;
            }
        }
        down = false;
        return writes - before;
    }

    /** The next word that a restart has to make 0; null: none. */
    private String wrongWord() {
        Set<Integer> met = new HashSet<>();
        for (int d = 0; d < 12; d++) {
            for (int p = 0; kind(d) == 1 && p < 8; p++) {
                int entry = place(d, p);
                if (entry != 0 && (kind(entry / 100) == 0 || !met.add(entry / 100))) {
                    return "place " + d + " " + p;
                }
            }
        }
        for (int i = 1; i < 12; i++) {
            if (kind(i) != 0 && !met.contains(i)) {
                return "kind " + i;
            }
        }
        return null;
    }

    int isDown() {
        return down ? 1 : 0;
    }

    int find(int directory, int name) {
        if (!is(directory, 1) || !name(name)) {
            return BAD;
        }
        Integer p = placesByName(directory).get(name);
        return p == null ? NONE : place(directory, p) / 100;
    }

    int inode(int i, int what) {
        if (i < 0 || i > 11 || what < 0 || what > 9) {
            return BAD;
        }
        return what == 0 ? kind(i) : what == 1 ? size(i) : place(i, what - 2);
    }

    int data(int block, int k) {
        if (block < 0 || block > 39 || k < 0 || k > 2) {
            return BAD;
        }
        asked = words.getOrDefault("data " + block + " " + k, 0L);
        return 1;
    }

    int read(int file, int p, int k) {
        return is(file, 2) && p >= 0 && p < size(file) ? data(place(file, p), k) : BAD;
    }

    long asked() {
        return asked;
    }

    int record(int what) {
        return what < 0 || what > 3 ? BAD : get("record " + what);
    }

    int plan(int what) {
        if (what < 0 || what > 3) {
            return BAD;
        }
        int[] move = next();
        return move.length == 1 ? move[0] : move[what];
    }

    int runs(int file) {
        if (!is(file, 2)) {
            return BAD;
        }
        int found = Math.min(size(file), 1);
        for (int p = 1; p < size(file); p++) {
            found += place(file, p) - place(file, p - 1) == 1 ? 0 : 1;
        }
        return found;
    }

    int count(int what) {
        int kinds = 0;
        int entries = 0;
        for (int i = 0; i < 12; i++) {
            kinds += kind(i) == 0 ? 0 : 1;
            entries += kind(i) == 1 ? placesByName(i).size() : 0;
        }
        int misplaced = 0;
        List<int[]> all = blocks();
        for (int g = 0; g < all.size(); g++) {
            misplaced += place(all.get(g)[0], all.get(g)[1]) == g ? 0 : 1;
        }
        int[] counts = {40 - freeBlocks().size(), kinds, writes, moves, misplaced, entries};
        return what < 0 || what > 5 ? BAD : counts[what];
    }

    long tree() {
        Set<Integer> met = new HashSet<>();
        met.add(0);
        List<Long> row = new ArrayList<>();
        rowOfTree(0, met, row);
        long h = 5;
        for (long v : row) {
            h = 31 * h + v;
        }
        return h;
    }

    private void rowOfTree(int i, Set<Integer> met, List<Long> row) {
        row.add((long) kind(i));
        if (kind(i) == 2) {
            row.add((long) size(i));
            for (int p = 0; p < size(i); p++) {
                for (int k = 0; k < 3; k++) {
                    row.add(words.getOrDefault("data " + place(i, p) + " " + k, 0L));
                }
            }
            return;
        }
        for (Map.Entry<Integer, Integer> e : placesByName(i).entrySet()) {
            int child = place(i, e.getValue()) / 100;
            if (kind(child) != 0 && met.add(child)) {
                row.add((long) e.getKey());
                rowOfTree(child, met, row);
            }
        }
        row.add(9L);
    }

    long digest() {
        long h = 3;
        for (int i = 0; i < 12; i++) {
            for (int what = 0; what < 10; what++) {
                h = 31 * h + inode(i, what);
            }
        }
        for (int b = 0; b < 40; b++) {
            for (int k = 0; k < 3; k++) {
                h = 31 * h + words.getOrDefault("data " + b + " " + k, 0L);
            }
        }
        for (int what = 0; what < 4; what++) {
            h = 31 * h + record(what);
        }
        return 31 * h + isDown();
    }
}
