/** Volumes to begin a test with. Where there is a BLOCK, DATA 0 of BLOCK 0 is not 0. */
final class Volumes {
    private Volumes() {
    }

    static Volume empty() {
        return new Volume();
    }

    /** FILES 1 and 2 in THE ROOT by NAMES 1 and 2, with BLOCKS 0, 2 and 1; 37 WRITES. */
    static Volume twoFiles() {
        Volume v = new Volume();
        v.make(0, 1, 2);
        v.make(0, 2, 2);
        v.append(1, 1, 2, 3);
        v.append(2, 4, 5, 6);
        v.append(1, 7, 8, 9);
        return v;
    }

    /** DIRECTORIES 1 and 2 in THE ROOT by NAMES 1 and 2, FILE 3 in 2 by NAME 5, with one BLOCK. */
    static Volume twoDirectories() {
        Volume v = new Volume();
        v.make(0, 1, 1);
        v.make(0, 2, 1);
        v.make(2, 5, 2);
        v.append(3, 1, 2, 3);
        return v;
    }

    /** FILE 1 of eight BLOCKS, 0 .. 7. */
    static Volume eightBlocks() {
        Volume v = new Volume();
        v.make(0, 1, 2);
        for (int n = 0; n < 8; n++) {
            v.append(1, 10 + n, 20 + n, 30 + n);
        }
        return v;
    }

    /** FILES 1 .. 5 of eight BLOCKS, and FILE 6 of none; no BLOCK is FREE, and all are in order. */
    static Volume noBlockInOrder() {
        Volume v = sixFiles();
        for (int n = 0; n < 40; n++) {
            v.append(n / 8 + 1, n + 1, n + 101, n + 201);
        }
        return v;
    }

    /** The same, but BLOCK b is one of FILE b % 5 + 1. */
    static Volume noBlockInTurns() {
        return blocksInTurns(40);
    }

    static Volume blocksInTurns(int blocks) {
        Volume v = sixFiles();
        for (int n = 0; n < blocks; n++) {
            v.append(n % 5 + 1, n + 1, n + 101, n + 201);
        }
        return v;
    }

    private static Volume sixFiles() {
        Volume v = new Volume();
        for (int f = 1; f <= 6; f++) {
            v.make(0, f, 2);
        }
        return v;
    }

    /** All INODES: DIRECTORY 1 and FILES 2 .. 6 in THE ROOT, 7 .. 11 in 1; each one's number is its NAME. */
    static Volume noInode() {
        Volume v = new Volume();
        v.make(0, 1, 1);
        for (int f = 2; f <= 11; f++) {
            v.make(f <= 6 ? 0 : 1, f, 2);
        }
        v.append(2, 1, 2, 3);
        return v;
    }

    /** Eight ENTRIES in THE ROOT: DIRECTORIES 1, 2, FILES 3 .. 8; DIRECTORY 9, FILE 10 in 1; by these NAMES. */
    static Volume fullRoot() {
        Volume v = new Volume();
        for (int i = 1; i <= 8; i++) {
            v.make(0, i, i <= 2 ? 1 : 2);
        }
        v.append(3, 1, 2, 3);
        v.make(1, 9, 1);
        v.make(1, 10, 2);
        return v;
    }

    /** Eight ENTRIES in THE ROOT by NAMES 2 .. 9, 8 a DIRECTORY; INODE 1 is of KIND 0, as are 10 and 11. */
    static Volume fullRootBesideNoInode() {
        Volume v = new Volume();
        v.make(0, 1, 1);
        for (int i = 2; i <= 8; i++) {
            v.make(0, i, i == 8 ? 1 : 2);
        }
        v.make(8, 9, 2);
        v.remove(0, 1);
        v.rename(8, 9, 0, 9);
        v.append(2, 1, 2, 3);
        return v;
    }

    /** DIRECTORY 11, the last INODE, in 1 by NAME 11, with FILES 2 .. 9 in it; INODE 10 is of KIND 0. */
    static Volume fullInode11() {
        Volume v = new Volume();
        v.make(0, 1, 1);
        for (int i = 2; i <= 10; i++) {
            v.make(i <= 8 ? 0 : 1, i, 2);
        }
        v.make(1, 11, 1);
        for (int i = 2; i <= 9; i++) {
            v.rename(i <= 8 ? 0 : 1, i, 11, i);
        }
        v.remove(1, 10);
        return v;
    }

    /** FILE 1 with BLOCK 0 alone, and with this DATA. */
    static Volume oneBlock(long a, long b, long c) {
        Volume v = new Volume();
        v.make(0, 1, 2);
        v.append(1, a, b, c);
        return v;
    }

    /** DIRECTORY 1 in THE ROOT by NAME 1, in it eight ENTRIES: FILES 2 .. 9 by NAMES 2 .. 9. */
    static Volume fullDirectory() {
        Volume v = new Volume();
        v.make(0, 1, 1);
        for (int i = 2; i <= 9; i++) {
            v.make(1, i, 2);
        }
        v.append(2, 1, 2, 3);
        return v;
    }

    /** DIRECTORIES 1 .. 11, each in the one before it by NAME 50. */
    static Volume deep() {
        Volume v = new Volume();
        for (int d = 0; d < 11; d++) {
            v.make(d, 50, 1);
        }
        return v;
    }

    /** The volume, DOWN, with all its words as they were. */
    static Volume down(Volume v) {
        v.cut(0);
        v.make(0, 98, 2);
        for (int file = 1; file < 12 && v.isDown() == 0; file++) {
            v.append(file, 0, 0, 0);
            v.put(file, 0, 0, 0);
        }
        if (v.isDown() == 0) {
            throw new IllegalStateException("a test's volume is not DOWN");
        }
        return v;
    }
}
