/** A volume whose files are laid into one run each, while the power may fail behind any write. */
public final class BlockMover {
    public static final int BAD = -1, DOWN = -2, NONE = -3, TAKEN = -4, FULL = -5, NO = -6;

    private static final int INODES = 12;
    private static final int PLACES = 8;
    private static final int BLOCKS = 40;
    private static final int DATA = 3;
    private static final int MOST_WRITES_TOLD = 40;

    private static final int ROOT = 0;
    private static final int DIRECTORY = 1;
    private static final int FILE = 2;
    private static final int LEAST_NAME = 1;
    private static final int GREATEST_NAME = 99;
    private static final int ENTRY_BASE = 100;

    // The words lie in the order in which digest() takes them: inodes, blocks, the record.
    private static final int KIND = 0;
    private static final int SIZE = 1;
    private static final int FIRST_PLACE = 2;
    private static final int INODE_WORDS = FIRST_PLACE + PLACES;
    private static final int DATA_AT = INODES * INODE_WORDS;
    private static final int RECORD_AT = DATA_AT + BLOCKS * DATA;
    private static final int RECORD_WORDS = 4;
    private static final int WORDS = RECORD_AT + RECORD_WORDS;

    private static final int RECORD_STATE = 0;
    private static final int RECORD_INODE = 1;
    private static final int RECORD_PLACE = 2;
    private static final int RECORD_BLOCK = 3;
    private static final int STATE_NONE = 0;
    private static final int STATE_COPYING = 1;
    private static final int STATE_COPIED = 2;

    // Every round of a restart but the last ends an entry or an inode, so it needs fewer than this.
    private static final int MOST_ROUNDS = INODES * INODE_WORDS;

    private static final int READY = 1;

    private final Disk disk;
    private final Plan next;
    private long lastAsked;
    private int movesDone;
    private int inodesMet;

    public BlockMover() {
        disk = new Disk();
        next = new Plan();
    }

    // ---- power ----

    public int cut(int n) {
        if (n != NONE && !isBelow(n, MOST_WRITES_TOLD + 1)) {
            return BAD;
        }
        int before = disk.left;
        disk.left = n;
        return before;
    }

    public int isDown() {
        return disk.down ? 1 : 0;
    }

    // ---- acts ----

    public int make(int directory, int name, int kind) {
        if (!isOfKind(directory, DIRECTORY) || !isName(name) || (kind != DIRECTORY && kind != FILE)) {
            return BAD;
        }
        if (disk.down) {
            return DOWN;
        }
        if (placeOfName(directory, name) != NONE) {
            return TAKEN;
        }
        int i = leastInodeOfNoKind();
        int entry = leastPlaceWithoutEntry(directory);
        if (i == NONE || entry == NONE) {
            return FULL;
        }
        disk.write(inodeAt(i, SIZE), 0);
        for (int p = 0; p < PLACES; p++) {
            disk.write(placeAt(i, p), 0);
        }
        disk.write(inodeAt(i, KIND), kind);
        disk.write(placeAt(directory, entry), entryOf(i, name));
        return answerOrDown(i);
    }

    public int append(int file, long a, long b, long c) {
        if (!isOfKind(file, FILE)) {
            return BAD;
        }
        if (disk.down) {
            return DOWN;
        }
        int size = sizeOf(file);
        int block = leastFree(usedBlocks());
        if (size >= PLACES || block == NONE) {
            return FULL;
        }
        disk.write(dataAt(block, 0), a);
        disk.write(dataAt(block, 1), b);
        disk.write(dataAt(block, 2), c);
        disk.write(placeAt(file, size), block);
        disk.write(inodeAt(file, SIZE), size + 1);
        return answerOrDown(size + 1);
    }

    public int put(int file, int p, int k, long v) {
        if (!isDataOfFile(file, p, k)) {
            return BAD;
        }
        if (disk.down) {
            return DOWN;
        }
        disk.write(dataAt(placeOf(file, p), k), v);
        return answerOrDown(1);
    }

    public int remove(int directory, int name) {
        if (!isOfKind(directory, DIRECTORY) || !isName(name)) {
            return BAD;
        }
        if (disk.down) {
            return DOWN;
        }
        int entry = placeOfName(directory, name);
        if (entry == NONE) {
            return NONE;
        }
        int i = inodeOfEntry(placeOf(directory, entry));
        if (kindOf(i) == DIRECTORY && entriesOf(i) > 0) {
            return NO;
        }
        disk.write(placeAt(directory, entry), 0);
        disk.write(inodeAt(i, KIND), 0);
        return answerOrDown(i);
    }

    public int rename(int directory, int name, int to, int other) {
        if (!isOfKind(directory, DIRECTORY) || !isName(name) || !isOfKind(to, DIRECTORY) || !isName(other)) {
            return BAD;
        }
        if (disk.down) {
            return DOWN;
        }
        int from = placeOfName(directory, name);
        if (from == NONE) {
            return NONE;
        }
        if (placeOfName(to, other) != NONE) {
            return TAKEN;
        }
        int entry = leastPlaceWithoutEntry(to);
        if (entry == NONE) {
            return FULL;
        }
        int i = inodeOfEntry(placeOf(directory, from));
        if (isWithin(to, i)) {
            return NO;
        }
        disk.write(placeAt(to, entry), entryOf(i, other));
        disk.write(placeAt(directory, from), 0);
        return answerOrDown(i);
    }

    public int step() {
        if (disk.down) {
            return DOWN;
        }
        int found = findNextMove();
        if (found == NONE) {
            return 0;
        }
        if (found == FULL) {
            return FULL;
        }
        disk.write(recordAt(RECORD_INODE), next.inode);
        disk.write(recordAt(RECORD_PLACE), next.place);
        disk.write(recordAt(RECORD_BLOCK), next.to);
        disk.write(recordAt(RECORD_STATE), STATE_COPYING);
        copyMovedBlock();
        linkMovedBlock();
        return answerOrDown(1);
    }

    public int restart() {
        int before = disk.writes;
        // Nothing is written while the disk is down; a failure in the restart makes it so again.
        disk.down = false;
        finishRecordedMove();
        for (int round = 0; round < MOST_ROUNDS; round++) {
            int atStart = disk.writes;
            clearWrongEntries();
            clearInodesWithoutEntry();
            if (disk.writes == atStart) {
                break;
            }
        }
        return answerOrDown(disk.writes - before);
    }

    // ---- what is asked ----

    public int find(int directory, int name) {
        if (!isOfKind(directory, DIRECTORY) || !isName(name)) {
            return BAD;
        }
        int entry = placeOfName(directory, name);
        return entry == NONE ? NONE : inodeOfEntry(placeOf(directory, entry));
    }

    public int inode(int i, int what) {
        if (!isBelow(i, INODES) || !isBelow(what, INODE_WORDS)) {
            return BAD;
        }
        return (int) disk.word(inodeAt(i, what));
    }

    public int data(int block, int k) {
        if (!isBelow(block, BLOCKS) || !isBelow(k, DATA)) {
            return BAD;
        }
        lastAsked = disk.word(dataAt(block, k));
        return 1;
    }

    public int read(int file, int p, int k) {
        if (!isDataOfFile(file, p, k)) {
            return BAD;
        }
        lastAsked = disk.word(dataAt(placeOf(file, p), k));
        return 1;
    }

    public long asked() {
        return lastAsked;
    }

    public int record(int what) {
        return isBelow(what, RECORD_WORDS) ? recorded(what) : BAD;
    }

    public int plan(int what) {
        if (!isBelow(what, 4)) {
            return BAD;
        }
        int found = findNextMove();
        if (found != READY) {
            return found;
        }
        switch (what) {
            case 0:
                return placeOf(next.inode, next.place);
            case 1:
                return next.to;
            case 2:
                return next.inode;
            default:
                return next.place;
        }
    }

    public int runs(int file) {
        if (!isOfKind(file, FILE)) {
            return BAD;
        }
        int size = sizeOf(file);
        int found = 0;
        for (int p = 0; p < size; p++) {
            if (p == 0 || placeOf(file, p) != placeOf(file, p - 1) + 1) {
                found++;
            }
        }
        return found;
    }

    public int count(int what) {
        switch (what) {
            case 0:
                return Long.bitCount(usedBlocks());
            case 1:
                return countInodes();
            case 2:
                return disk.writes;
            case 3:
                return movesDone;
            case 4:
                return countMisplacedBlocks();
            case 5:
                return countEntries();
            default:
                return BAD;
        }
    }

    public long tree() {
        inodesMet = 1 << ROOT;
        return hashOfInode(5, ROOT, 0);
    }

    public long digest() {
        long h = 3;
        for (int at = 0; at < WORDS; at++) {
            h = 31 * h + disk.word(at);
        }
        return 31 * h + isDown();
    }

    // ---- where words stand ----

    private static int inodeAt(int i, int what) {
        return i * INODE_WORDS + what;
    }

    private static int placeAt(int i, int p) {
        return inodeAt(i, FIRST_PLACE + p);
    }

    private static int dataAt(int block, int k) {
        return DATA_AT + block * DATA + k;
    }

    private static int recordAt(int what) {
        return RECORD_AT + what;
    }

    private int kindOf(int i) {
        return (int) disk.word(inodeAt(i, KIND));
    }

    private int sizeOf(int i) {
        return (int) disk.word(inodeAt(i, SIZE));
    }

    private int placeOf(int i, int p) {
        return (int) disk.word(placeAt(i, p));
    }

    private int recorded(int what) {
        return (int) disk.word(recordAt(what));
    }

    // ---- what is as told ----

    private static boolean isBelow(int n, int end) {
        return n >= 0 && n < end;
    }

    private static boolean isName(int name) {
        return name >= LEAST_NAME && name <= GREATEST_NAME;
    }

    private boolean isOfKind(int i, int kind) {
        return isBelow(i, INODES) && kindOf(i) == kind;
    }

    private boolean isDataOfFile(int file, int p, int k) {
        return isOfKind(file, FILE) && isBelow(p, sizeOf(file)) && isBelow(k, DATA);
    }

    private int answerOrDown(int answer) {
        return disk.down ? DOWN : answer;
    }

    // ---- directories ----

    private static int entryOf(int i, int name) {
        return i * ENTRY_BASE + name;
    }

    private static int inodeOfEntry(int entry) {
        return entry / ENTRY_BASE;
    }

    private static int nameOfEntry(int entry) {
        return entry % ENTRY_BASE;
    }

    private int placeOfName(int directory, int name) {
        for (int p = 0; p < PLACES; p++) {
            if (nameOfEntry(placeOf(directory, p)) == name) {
                return p;
            }
        }
        return NONE;
    }

    private int leastPlaceWithoutEntry(int directory) {
        for (int p = 0; p < PLACES; p++) {
            if (placeOf(directory, p) == 0) {
                return p;
            }
        }
        return NONE;
    }

    private int entriesOf(int directory) {
        int found = 0;
        for (int p = 0; p < PLACES; p++) {
            if (placeOf(directory, p) != 0) {
                found++;
            }
        }
        return found;
    }

    private boolean hasEntryOf(int directory, int i) {
        for (int p = 0; p < PLACES; p++) {
            int entry = placeOf(directory, p);
            if (entry != 0 && inodeOfEntry(entry) == i) {
                return true;
            }
        }
        return false;
    }

    private int directoryAbove(int i) {
        for (int d = 0; d < INODES; d++) {
            if (kindOf(d) == DIRECTORY && hasEntryOf(d, i)) {
                return d;
            }
        }
        return NONE;
    }

    private boolean isWithin(int directory, int i) {
        int at = directory;
        for (int depth = 0; depth < INODES && at != NONE; depth++) {
            if (at == i) {
                return true;
            }
            at = directoryAbove(at);
        }
        return false;
    }

    private int leastInodeOfNoKind() {
        for (int i = 0; i < INODES; i++) {
            if (kindOf(i) == 0) {
                return i;
            }
        }
        return NONE;
    }

    // ---- blocks ----

    private int blocksOf(int i) {
        return kindOf(i) == FILE ? sizeOf(i) : 0;
    }

    /** A bit for each block, so that no row has to be made for a call. */
    private long usedBlocks() {
        long used = 0;
        for (int i = 0; i < INODES; i++) {
            int size = blocksOf(i);
            for (int p = 0; p < size; p++) {
                used |= 1L << placeOf(i, p);
            }
        }
        return used;
    }

    private static boolean isUsed(long used, int block) {
        return (used >> block & 1) == 1;
    }

    private static int leastFree(long used) {
        for (int block = 0; block < BLOCKS; block++) {
            if (!isUsed(used, block)) {
                return block;
            }
        }
        return NONE;
    }

    private static int greatestFree(long used) {
        for (int block = BLOCKS - 1; block >= 0; block--) {
            if (!isUsed(used, block)) {
                return block;
            }
        }
        return NONE;
    }

    // ---- moves ----

    /** Answers READY, and the move is in next; or NONE or FULL. */
    private int findNextMove() {
        int goal = 0;
        for (int i = 0; i < INODES; i++) {
            int size = blocksOf(i);
            for (int p = 0; p < size; p++) {
                if (placeOf(i, p) != goal) {
                    return chooseMove(i, p, goal);
                }
                goal++;
            }
        }
        return NONE;
    }

    private int chooseMove(int i, int p, int goal) {
        long used = usedBlocks();
        if (!isUsed(used, goal)) {
            next.set(i, p, goal);
            return READY;
        }
        int free = greatestFree(used);
        return free == NONE ? FULL : chooseMoveAway(goal, free);
    }

    private int chooseMoveAway(int block, int to) {
        for (int i = 0; i < INODES; i++) {
            int size = blocksOf(i);
            for (int p = 0; p < size; p++) {
                if (placeOf(i, p) == block) {
                    next.set(i, p, to);
                    return READY;
                }
            }
        }
        return NONE;
    }

    private void copyMovedBlock() {
        int from = placeOf(recorded(RECORD_INODE), recorded(RECORD_PLACE));
        int to = recorded(RECORD_BLOCK);
        for (int k = 0; k < DATA; k++) {
            disk.write(dataAt(to, k), disk.word(dataAt(from, k)));
        }
        disk.write(recordAt(RECORD_STATE), STATE_COPIED);
    }

    private void linkMovedBlock() {
        disk.write(placeAt(recorded(RECORD_INODE), recorded(RECORD_PLACE)), recorded(RECORD_BLOCK));
        disk.write(recordAt(RECORD_STATE), STATE_NONE);
        if (!disk.down) {
            movesDone++;
        }
    }

    // ---- restart ----

    private void finishRecordedMove() {
        int state = recorded(RECORD_STATE);
        if (state == STATE_COPYING) {
            copyMovedBlock();
        }
        if (state != STATE_NONE) {
            linkMovedBlock();
        }
    }

    private void clearWrongEntries() {
        inodesMet = 0;
        for (int d = 0; d < INODES; d++) {
            if (kindOf(d) == DIRECTORY) {
                clearWrongEntriesOf(d);
            }
        }
    }

    private void clearWrongEntriesOf(int directory) {
        for (int p = 0; p < PLACES; p++) {
            int entry = placeOf(directory, p);
            if (entry != 0 && !meet(inodeOfEntry(entry))) {
                disk.write(placeAt(directory, p), 0);
            }
        }
    }

    private void clearInodesWithoutEntry() {
        for (int i = ROOT + 1; i < INODES; i++) {
            if (kindOf(i) != 0 && directoryAbove(i) == NONE) {
                disk.write(inodeAt(i, KIND), 0);
            }
        }
    }

    /** Whether an inode is there and is come to for the first time. */
    private boolean meet(int i) {
        if (kindOf(i) == 0 || (inodesMet >> i & 1) == 1) {
            return false;
        }
        inodesMet |= 1 << i;
        return true;
    }

    // ---- counts ----

    private int countInodes() {
        int found = 0;
        for (int i = 0; i < INODES; i++) {
            if (kindOf(i) != 0) {
                found++;
            }
        }
        return found;
    }

    private int countMisplacedBlocks() {
        int goal = 0;
        int found = 0;
        for (int i = 0; i < INODES; i++) {
            int size = blocksOf(i);
            for (int p = 0; p < size; p++) {
                if (placeOf(i, p) != goal) {
                    found++;
                }
                goal++;
            }
        }
        return found;
    }

    private int countEntries() {
        int found = 0;
        for (int d = 0; d < INODES; d++) {
            if (kindOf(d) == DIRECTORY) {
                found += entriesOf(d);
            }
        }
        return found;
    }

    // ---- the tree ----

    private long hashOfInode(long before, int i, int depth) {
        // meet() lets no inode in twice, so that no tree is deeper than there are inodes.
        if (depth >= INODES) {
            return before;
        }
        return kindOf(i) == DIRECTORY ? hashOfDirectory(before, i, depth) : hashOfFile(before, i);
    }

    private long hashOfDirectory(long before, int directory, int depth) {
        long h = 31 * before + 1;
        int entry = entryBehindName(directory, 0);
        for (int n = 0; n < PLACES && entry != 0; n++) {
            if (meet(inodeOfEntry(entry))) {
                h = hashOfInode(31 * h + nameOfEntry(entry), inodeOfEntry(entry), depth + 1);
            }
            entry = entryBehindName(directory, nameOfEntry(entry));
        }
        return 31 * h + 9;
    }

    /** The entry of the least name that is greater than this one; 0 if there is none. */
    private int entryBehindName(int directory, int name) {
        int best = 0;
        for (int p = 0; p < PLACES; p++) {
            int entry = placeOf(directory, p);
            if (nameOfEntry(entry) > name && (best == 0 || nameOfEntry(entry) < nameOfEntry(best))) {
                best = entry;
            }
        }
        return best;
    }

    private long hashOfFile(long before, int file) {
        int size = sizeOf(file);
        long h = 31 * (31 * before + 2) + size;
        for (int p = 0; p < size; p++) {
            for (int k = 0; k < DATA; k++) {
                h = 31 * h + disk.word(dataAt(placeOf(file, p), k));
            }
        }
        return h;
    }

    /** The words, and the power that they are written by. */
    private static final class Disk {
        private final long[] words;
        int left;
        int writes;
        boolean down;

        Disk() {
            words = new long[WORDS];
            words[ROOT * INODE_WORDS + KIND] = DIRECTORY;
            left = NONE;
        }

        long word(int at) {
            return at >= 0 && at < words.length ? words[at] : 0;
        }

        void write(int at, long value) {
            if (down || at < 0 || at >= words.length) {
                return;
            }
            if (left == 0) {
                down = true;
                left = NONE;
                return;
            }
            if (left != NONE) {
                left--;
            }
            words[at] = value;
            writes++;
        }
    }

    /** The move that the next step would do. */
    private static final class Plan {
        int inode;
        int place;
        int to;

        void set(int i, int p, int block) {
            inode = i;
            place = p;
            to = block;
        }
    }
}
