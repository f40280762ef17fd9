import java.lang.reflect.Field;

/** A BlockMover that is called 512 times at most: what it answers beyond them is not promised. */
final class Volume {
    static final int MOST_CALLS = 512;
    static final int NONE = -3;

    private final BlockMover x = new BlockMover();
    private int calls;

    private BlockMover called() {
        calls++;
        if (calls > MOST_CALLS) {
            throw new IllegalStateException("a test calls an object more than 512 times");
        }
        return x;
    }

    int callsLeft() {
        return MOST_CALLS - calls;
    }

    int cut(int n) {
        return called().cut(n);
    }

    int make(int directory, int name, int kind) {
        return called().make(directory, name, kind);
    }

    int append(int file, long a, long b, long c) {
        return called().append(file, a, b, c);
    }

    int put(int file, int p, int k, long v) {
        return called().put(file, p, k, v);
    }

    int remove(int directory, int name) {
        return called().remove(directory, name);
    }

    int rename(int directory, int name, int to, int other) {
        return called().rename(directory, name, to, other);
    }

    int step() {
        return called().step();
    }

    int restart() {
        return called().restart();
    }

    int isDown() {
        return called().isDown();
    }

    int find(int directory, int name) {
        return called().find(directory, name);
    }

    int inode(int i, int what) {
        return called().inode(i, what);
    }

    int data(int block, int k) {
        return called().data(block, k);
    }

    int read(int file, int p, int k) {
        return called().read(file, p, k);
    }

    long asked() {
        return called().asked();
    }

    int record(int what) {
        return called().record(what);
    }

    int plan(int what) {
        return called().plan(what);
    }

    int runs(int file) {
        return called().runs(file);
    }

    int count(int what) {
        return called().count(what);
    }

    long tree() {
        return called().tree();
    }

    long digest() {
        return called().digest();
    }

    // ---- several calls in one ----

    /** DATA k of a BLOCK, by data() and asked(). */
    long dataOf(int block, int k) {
        data(block, k);
        return asked();
    }

    /** DATA k of BLOCK p of a FILE, by read() and asked(). */
    long readOf(int file, int p, int k) {
        read(file, p, k);
        return asked();
    }

    /** Behind how many WRITES the power fails; this stays as it is. */
    int left() {
        int n = cut(NONE);
        cut(n);
        return n;
    }

    /**
     * Lays a word, in digest()'s order, where no call would: acts and restarts never leave some of the
     * states that the document tells of, and its sentences on them are promises all the same.
     */
    void lay(int word, long value) {
        try {
            Object disk = field(x, "disk");
            ((long[]) field(disk, "words"))[word] = value;
        } catch (ReflectiveOperationException e) {
            throw new IllegalStateException("the words are held in another way now", e);
        }
    }

    private static Object field(Object holder, String name) throws ReflectiveOperationException {
        Field found = holder.getClass().getDeclaredField(name);
        found.setAccessible(true);
        return found.get(holder);
    }

    /** All that can be told of it in few calls: the same text twice if nothing has changed. */
    String state() {
        StringBuilder told = new StringBuilder();
        told.append("left ").append(left()).append(", asked ").append(asked());
        told.append(", digest ").append(digest()).append(", tree ").append(tree()).append(", counts");
        for (int what = 0; what < 6; what++) {
            told.append(' ').append(count(what));
        }
        return told.toString();
    }
}
