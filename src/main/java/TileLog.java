/**
 * A log of entries that only grows, kept on a disk as entries, tiles of hashes and two heads.
 * The numbered promises in the comments are those of the document.
 */
public final class TileLog {
    public static final int NONE = -1;
    public static final int DOWN = -2;
    public static final int CRASHED = -3;

    private static final int MOST_ENTRIES = 64;
    private static final int TILE_WIDTH = 8;
    // The one tile of band 1 is kept behind the eight of band 0: the order in which tiles are written.
    private static final int UPPER_TILE = 8;
    private static final int TILES = 9;
    private static final int HEADS = 2;
    private static final int MOST_ORDERED = 20;
    private static final int OFFER_WIDTH = 8;
    // The longest bridge in 64 entries has 7 hashes: one at each of six levels, and the innermost root.
    private static final int PROOF_WIDTH = 7;
    private static final int MOST_CLAIMED = 1000000;

    private final Disk disk;
    private final long[] proofHashes;
    private int proofLength;
    private final long[] offerHashes;
    private int offerLength;

    /** Promise 1. */
    public TileLog() {
        disk = new Disk();
        proofHashes = new long[PROOF_WIDTH];
        proofLength = 0;
        offerHashes = new long[OFFER_WIDTH];
        offerLength = 0;
    }

    /** Promise 2. */
    public int append(long e) {
        if (disk.down) {
            return DOWN;
        }
        int place = disk.filled;
        if (place >= MOST_ENTRIES) {
            return NONE;
        }
        return disk.writeEntry(place, e) ? place : CRASHED;
    }

    /** Promise 3. */
    public int publish() {
        if (disk.down) {
            return DOWN;
        }
        int n = disk.filled;
        if (n != disk.publishedSize()) {
            boolean written = disk.writeTilesFor(n)
                && disk.writeHead(disk.latestNumber() + 1, n, Hashes.ofRow(disk.entries, 0, n));
            if (!written) {
                return CRASHED;
            }
        }
        return disk.latestNumber();
    }

    /** Promise 4. */
    public boolean order(int n) {
        if (n < 0 || n > MOST_ORDERED) {
            return false;
        }
        disk.writesBeforeCrash = n;
        return true;
    }

    /** Promise 5. */
    public int recover() {
        if (!disk.down) {
            return NONE;
        }
        if (!disk.writeTilesFor(disk.publishedSize())) {
            return CRASHED;
        }
        disk.down = false;
        return disk.filled;
    }

    /** Promise 6. */
    public int writes() {
        return disk.writesMade;
    }

    /** Promise 7. */
    public int length() {
        return disk.down ? DOWN : disk.filled;
    }

    /** Promise 8. */
    public int size(int place) {
        return disk.hasHead(place) ? disk.headSizes[place] : NONE;
    }

    /** Promise 9. */
    public long root(int place) {
        return disk.hasHead(place) ? disk.headRoots[place] : 0;
    }

    /** Promise 10. */
    public int latest() {
        return disk.latestNumber();
    }

    /** Promise 11. */
    public long tile(int band, int t, int i) {
        if (i < 0 || i >= TILE_WIDTH) {
            return 0;
        }
        if (band == 0 && t >= 0 && t < UPPER_TILE) {
            return disk.tiles[t][i];
        }
        return band == 1 && t == 0 ? disk.tiles[UPPER_TILE][i] : 0;
    }

    /** Promise 12. */
    public long entry(int i) {
        return i >= 0 && i < disk.filled ? disk.entries[i] : 0;
    }

    /** Promise 13. */
    public int find(long e) {
        if (disk.down) {
            return DOWN;
        }
        long sought = Hashes.ofLeaf(e);
        int published = disk.publishedSize();
        for (int i = 0; i < published; i++) {
            if (Hashes.ofLeaf(disk.entries[i]) == sought) {
                return i;
            }
        }
        return NONE;
    }

    /** Promise 14. */
    public long rootOf(int n) {
        return n >= 0 && n <= disk.filled ? Hashes.ofRow(disk.entries, 0, n) : 0;
    }

    /** Promise 15. */
    public int include(int m, int n) {
        if (disk.down) {
            return DOWN;
        }
        if (n < 1 || n > disk.publishedSize() || m < 0 || m >= n) {
            return NONE;
        }
        proofLength = 0;
        addPath(m, 0, n);
        return proofLength;
    }

    /** Promise 16. */
    public int extend(int m, int n) {
        if (disk.down) {
            return DOWN;
        }
        if (n < 1 || n > disk.publishedSize() || m < 1 || m > n) {
            return NONE;
        }
        proofLength = 0;
        addBridge(m, 0, n, true);
        return proofLength;
    }

    /** Promise 17. */
    public long proof(int i) {
        return i >= 0 && i < proofLength ? proofHashes[i] : 0;
    }

    /** Promise 18. */
    public boolean offer(int i, long h) {
        if (i < 0 || i >= OFFER_WIDTH) {
            return false;
        }
        offerHashes[i] = h;
        return true;
    }

    /** Promise 19. */
    public boolean offers(int n) {
        if (n < 0 || n > OFFER_WIDTH) {
            return false;
        }
        offerLength = n;
        return true;
    }

    /** Promise 20. */
    public boolean shows(long e, int m, int n, long root) {
        if (n < 1 || n > MOST_CLAIMED || m < 0 || m >= n) {
            return false;
        }
        int f = m;
        int g = n - 1;
        long r = Hashes.ofLeaf(e);
        for (int i = 0; i < offerLength; i++) {
            if (g == 0) {
                return false;
            }
            long p = offerHashes[i];
            boolean left = standsLeft(f, g);
            r = left ? Hashes.ofNode(p, r) : Hashes.ofNode(r, p);
            int levels = levelsClimbed(f, left);
            f >>= levels;
            g >>= levels;
        }
        return g == 0 && r == root;
    }

    /** Promise 21. */
    public boolean leads(int m, int n, long first, long second) {
        if (n < 1 || n > MOST_CLAIMED || m < 1 || m > n) {
            return false;
        }
        if (m == n) {
            return offerLength == 0 && first == second;
        }
        boolean firstGoesBefore = isPowerOfTwo(m);
        if (!firstGoesBefore && offerLength == 0) {
            return false;
        }
        return leadsBehind(m, n, first, second, firstGoesBefore);
    }

    /** The walk of promise 21 for m below n, over a row that is not empty. */
    private boolean leadsBehind(int m, int n, long first, long second, boolean firstGoesBefore) {
        // m - 1 ends in as many ones as m does in zeros.
        int skipped = zerosAtEnd(m);
        int f = (m - 1) >> skipped;
        int g = (n - 1) >> skipped;
        long a = firstGoesBefore ? first : offerHashes[0];
        long b = a;
        for (int i = firstGoesBefore ? 0 : 1; i < offerLength; i++) {
            if (g == 0) {
                return false;
            }
            long p = offerHashes[i];
            boolean left = standsLeft(f, g);
            if (left) {
                a = Hashes.ofNode(p, a);
            }
            b = left ? Hashes.ofNode(p, b) : Hashes.ofNode(b, p);
            int levels = levelsClimbed(f, left);
            f >>= levels;
            g >>= levels;
        }
        return g == 0 && a == first && b == second;
    }

    /** Whether the next hash of the offer stands to the left of what has been joined so far. */
    private static boolean standsLeft(int f, int g) {
        return (f & 1) == 1 || f == g;
    }

    /** How often f and g are halved after a hash of the offer has been joined. */
    private static int levelsClimbed(int f, boolean left) {
        return left ? zerosAtEnd(f) + 1 : 1;
    }

    /** How often a number that is not negative can be halved while it is even and not 0. */
    private static int zerosAtEnd(int number) {
        int zeros = 0;
        if (number != 0) {
            while (zeros < 31 && ((number >> zeros) & 1) == 0) {
                zeros++;
            }
        }
        return zeros;
    }

    private static boolean isPowerOfTwo(int number) {
        return (number & (number - 1)) == 0;
    }

    /** Adds the PATH of m in the row of n entries from a place on; 64 entries keep it seven levels deep. */
    private void addPath(int m, int from, int n) {
        if (n <= 1 || n > MOST_ENTRIES) {
            return;
        }
        int k = Hashes.half(n);
        if (m < k) {
            addPath(m, from, k);
            addToProof(from + k, n - k);
        } else {
            addPath(m - k, from + k, n - k);
            addToProof(from, k);
        }
    }

    /** Adds B(m, row, whole) of the row of n entries from a place on, seven levels deep at most as well. */
    private void addBridge(int m, int from, int n, boolean whole) {
        if (m < 1 || m > n || n > MOST_ENTRIES) {
            return;
        }
        if (m == n) {
            if (!whole) {
                addToProof(from, n);
            }
            return;
        }
        int k = Hashes.half(n);
        if (m <= k) {
            addBridge(m, from, k, whole);
            addToProof(from + k, n - k);
        } else {
            addBridge(m - k, from + k, n - k, false);
            addToProof(from, k);
        }
    }

    /** Adds the ROOT of the row of n entries from a place on. */
    private void addToProof(int from, int n) {
        if (proofLength < PROOF_WIDTH) {
            proofHashes[proofLength] = Hashes.ofRow(disk.entries, from, n);
            proofLength++;
        }
    }

    /** The hashes of the document's terms. */
    private static final class Hashes {
        private static final long FIRST_FACTOR = 5871781006564002453L;
        private static final long SECOND_FACTOR = 1181783497276652981L;

        private static long mix(long a, long b) {
            long s = (a ^ (a >>> 29)) * FIRST_FACTOR + b;
            long t = (s ^ (s >>> 32)) * SECOND_FACTOR;
            return t ^ (t >>> 31);
        }

        private static long ofLeaf(long e) {
            return mix(mix(7, e), 1);
        }

        private static long ofNode(long l, long r) {
            return mix(mix(l, r), 2);
        }

        /** The greatest power of two below n, for n from 2 to 64. */
        private static int half(int n) {
            int power = 1;
            while (power < MOST_ENTRIES && power * 2 < n) {
                power *= 2;
            }
            return power;
        }

        /** ROOT of the n entries from a place on; 64 of them keep it seven levels deep. */
        private static long ofRow(long[] entries, int from, int n) {
            if (n < 1 || n > MOST_ENTRIES || from < 0 || from > entries.length - n) {
                return 0;
            }
            if (n == 1) {
                return ofLeaf(entries[from]);
            }
            int k = half(n);
            return ofNode(ofRow(entries, from, k), ofRow(entries, from + k, n - k));
        }
    }

    /** What outlives a crash, and the crash that was ordered; all writes go through here. */
    private static final class Disk {
        private static final int NO_CRASH = -1;

        private final long[] entries;
        private final long[][] tiles;
        private final int[] headNumbers;
        private final int[] headSizes;
        private final long[] headRoots;
        // Made once and used by every call, so that calls make no rows of their own.
        private final long[] rightTile;
        private int filled;
        private int writesMade;
        private int writesBeforeCrash;
        private boolean down;

        private Disk() {
            entries = new long[MOST_ENTRIES];
            tiles = new long[TILES][TILE_WIDTH];
            // Numbers begin with 1, so that 0 says that the place is empty.
            headNumbers = new int[HEADS];
            headSizes = new int[HEADS];
            headRoots = new long[HEADS];
            rightTile = new long[TILE_WIDTH];
            filled = 0;
            writesMade = 0;
            writesBeforeCrash = NO_CRASH;
            down = false;
        }

        private boolean hasHead(int place) {
            return place >= 0 && place < HEADS && headNumbers[place] != 0;
        }

        private int latestPlace() {
            return headNumbers[1] > headNumbers[0] ? 1 : 0;
        }

        private int latestNumber() {
            return headNumbers[latestPlace()];
        }

        private int publishedSize() {
            return headSizes[latestPlace()];
        }

        /** Counts the write that comes next; false when the crash comes in its place. */
        private boolean beginWrite() {
            if (writesBeforeCrash == 0) {
                writesBeforeCrash = NO_CRASH;
                down = true;
                return false;
            }
            if (writesBeforeCrash > 0) {
                writesBeforeCrash--;
            }
            writesMade++;
            return true;
        }

        /** The place is the first empty one. */
        private boolean writeEntry(int place, long e) {
            if (!beginWrite()) {
                return false;
            }
            entries[place] = e;
            filled = place + 1;
            return true;
        }

        private boolean writeHead(int number, int n, long hash) {
            if (!beginWrite()) {
                return false;
            }
            int place = number & 1;
            headNumbers[place] = number;
            headSizes[place] = n;
            headRoots[place] = hash;
            return true;
        }

        /** Writes every tile that is not right for n; false when a crash came. */
        private boolean writeTilesFor(int n) {
            for (int t = 0; t < TILES; t++) {
                if (!isRight(t, n) && !writeTile(t)) {
                    return false;
                }
            }
            return true;
        }

        /** Whether a tile is right for n; rightTile has what it is then to be. */
        private boolean isRight(int t, int n) {
            boolean right = true;
            for (int i = 0; i < TILE_WIDTH; i++) {
                rightTile[i] = t < UPPER_TILE ? leafBelow(t * TILE_WIDTH + i, n) : groupBelow(i, n);
                right = right && tiles[t][i] == rightTile[i];
            }
            return right;
        }

        private long leafBelow(int place, int n) {
            return place < n ? Hashes.ofLeaf(entries[place]) : 0;
        }

        private long groupBelow(int group, int n) {
            int from = group * TILE_WIDTH;
            // A group that lies below n only in part has no hash yet.
            return from + TILE_WIDTH <= n ? Hashes.ofRow(entries, from, TILE_WIDTH) : 0;
        }

        /** Makes the tile what isRight has just found that it is to be. */
        private boolean writeTile(int t) {
            if (!beginWrite()) {
                return false;
            }
            System.arraycopy(rightTile, 0, tiles[t], 0, TILE_WIDTH);
            return true;
        }
    }
}
