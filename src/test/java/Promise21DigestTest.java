/** Promise 21, `long digest()`. */
public final class Promise21DigestTest extends TestKit {
    public static void main(String[] args) throws IllegalAccessException {
        run(Promise21DigestTest.class);
    }

    // "h = 3; then h = 31 h + v for each v: of each INODE inode(.., 0) to (.., 9); of each BLOCK DATA 0 .. 2;
    //  record(0) to (3); isDown()"

    static void aNewOne() {
        long h = 31 * 3 + 1;
        for (int v = 1; v < 12 * 10 + 40 * 3 + 4 + 1; v++) {
            h = 31 * h;
        }
        due("digest", new Volume().digest(), h);
    }

    static void isDown_isTheLast() {
        long up = Volumes.twoFiles().digest();
        due("DOWN", Volumes.down(Volumes.twoFiles()).digest(), up + 1);
        Volume v = Volumes.down(Volumes.twoFiles());
        v.restart();
        due("up again", v.digest(), up);
    }

    static void ofAllWords_withFiles() {
        due("digest", Volumes.twoFiles().digest(), Words.of(Volumes.twoFiles()).digest(0));
    }

    static void ofAllWords_noBlockFree() {
        due("digest", Volumes.noBlockInTurns().digest(), Words.of(Volumes.noBlockInTurns()).digest(0));
    }

    static void ofAllWords_allInodes() {
        due("digest", Volumes.noInode().digest(), Words.of(Volumes.noInode()).digest(0));
        due("deep", Volumes.deep().digest(), Words.of(Volumes.deep()).digest(0));
    }

    static void ofAllWords_whileAMoveIsHalfDone() {
        due("digest", cutStep().digest(), Words.of(cutStep()).digest(1));
    }

    private static Volume cutStep() {
        Volume v = Volumes.twoFiles();
        v.cut(8);
        v.step();
        return v;
    }

    static void wrapsAround_withTheLeastAndTheGreatestLong() {
        due("digest", longs().digest(), Words.of(longs()).digest(0));
        Words words = Words.of(longs());
        words.set(Words.data(0, 0), 0);
        due("without the least", longs().digest() == words.digest(0) ? 1 : 0, 0);
    }

    private static Volume longs() {
        Volume v = new Volume();
        v.make(0, 1, 2);
        v.append(1, Long.MIN_VALUE, Long.MAX_VALUE, -1);
        return v;
    }

    static void theLastDataOfBlock39Counts() {
        Volume v = Volumes.noBlockInOrder();
        Words words = Words.of(Volumes.noBlockInOrder());
        v.put(5, 7, 2, 12345);
        words.set(Words.data(39, 2), 12345);
        due("digest", v.digest(), words.digest(0));
    }

    static void cutAskedAndCountsAreNotInIt() {
        Volume v = Volumes.twoFiles();
        long before = v.digest();
        v.cut(5);
        v.data(1, 1);
        v.put(1, 0, 0, 1);
        due("digest", v.digest(), before);
    }

    static void changesNothing() {
        keeps("digest", Volumes::empty, Volume::digest, new Volume().digest());
    }
}
