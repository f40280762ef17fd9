/** The words of a disk in the order of digest(), as a test expects them. */
final class Words {
    private static final int BLOCKS_FROM = 12 * 10;
    private static final int RECORD_FROM = BLOCKS_FROM + 40 * 3;
    private final long[] words = new long[RECORD_FROM + 4];

    static int kind(int i) {
        return 10 * i;
    }

    static int size(int i) {
        return 10 * i + 1;
    }

    static int place(int i, int p) {
        return 10 * i + 2 + p;
    }

    static int data(int block, int k) {
        return BLOCKS_FROM + 3 * block + k;
    }

    static int record(int what) {
        return RECORD_FROM + what;
    }

    /** The words of a volume, asked for one by one. */
    static Words of(Volume v) {
        Words found = new Words();
        for (int i = 0; i < 12; i++) {
            for (int what = 0; what < 10; what++) {
                found.set(kind(i) + what, v.inode(i, what));
            }
        }
        for (int block = 0; block < 40; block++) {
            for (int k = 0; k < 3; k++) {
                found.set(data(block, k), v.dataOf(block, k));
            }
        }
        for (int what = 0; what < 4; what++) {
            found.set(record(what), v.record(what));
        }
        return found;
    }

    void set(int word, long value) {
        words[word] = value;
    }

    long get(int word) {
        return words[word];
    }

    long digest(int isDown) {
        long h = 3;
        for (long word : words) {
            h = 31 * h + word;
        }
        return 31 * h + isDown;
    }
}
