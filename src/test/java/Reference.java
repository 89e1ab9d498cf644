import java.math.BigInteger;
import java.util.ArrayList;
import java.util.Arrays;
import java.util.List;

/**
 * The document's terms and promises written out word for word, with lists and big numbers,
 * so that it shares no code and few habits with the class under test.
 */
final class Reference {
    record Head(int number, int size, long root) { }

    private static final BigInteger WRAP = BigInteger.ONE.shiftLeft(64);
    private static final BigInteger FIRST = new BigInteger("5871781006564002453");
    private static final BigInteger SECOND = new BigInteger("1181783497276652981");

    final List<Long> entries = new ArrayList<>();
    final long[][] lower = new long[8][8];
    final long[] upper = new long[8];
    final Head[] heads = new Head[2];
    List<Long> proof = new ArrayList<>();
    final long[] offer = new long[8];
    int offerLength = 0;
    boolean down = false;
    int ordered = -1;
    int writes = 0;

    // ---- hashes

    private static BigInteger unsigned(long x) {
        BigInteger value = BigInteger.valueOf(x);
        return value.signum() < 0 ? value.add(WRAP) : value;
    }

    static long mix(long a, long b) {
        BigInteger x = unsigned(a);
        BigInteger s = x.xor(x.shiftRight(29)).multiply(FIRST).add(unsigned(b)).mod(WRAP);
        BigInteger t = s.xor(s.shiftRight(32)).multiply(SECOND).mod(WRAP);
        return t.xor(t.shiftRight(31)).longValue();
    }

    static long leaf(long e) {
        return mix(mix(7, e), 1);
    }

    static long node(long l, long r) {
        return mix(mix(l, r), 2);
    }

    static int half(int n) {
        return Integer.highestOneBit(n - 1);
    }

    static long rootOfRow(List<Long> row) {
        int n = row.size();
        if (n == 0) {
            return 0;
        }
        if (n == 1) {
            return leaf(row.get(0));
        }
        int k = half(n);
        return node(rootOfRow(row.subList(0, k)), rootOfRow(row.subList(k, n)));
    }

    static List<Long> path(int m, List<Long> row) {
        int n = row.size();
        if (n == 1) {
            return new ArrayList<>();
        }
        int k = half(n);
        List<Long> first = row.subList(0, k);
        List<Long> others = row.subList(k, n);
        List<Long> found = m < k ? path(m, first) : path(m - k, others);
        found.add(rootOfRow(m < k ? others : first));
        return found;
    }

    static List<Long> bridge(int m, List<Long> row, boolean whole) {
        int n = row.size();
        if (m == n) {
            return whole ? new ArrayList<>() : new ArrayList<>(List.of(rootOfRow(row)));
        }
        int k = half(n);
        List<Long> first = row.subList(0, k);
        List<Long> others = row.subList(k, n);
        List<Long> found = m <= k ? bridge(m, first, whole) : bridge(m - k, others, false);
        found.add(rootOfRow(m <= k ? others : first));
        return found;
    }

    /** The root that the PATH of m in n entries belongs to: PATH read backwards, for logs of any size. */
    static long rootByPath(long leafHash, int m, int n, List<Long> path) {
        if (n == 1) {
            return leafHash;
        }
        int k = half(n);
        long last = path.get(path.size() - 1);
        List<Long> rest = path.subList(0, path.size() - 1);
        return m < k
            ? node(rootByPath(leafHash, m, k, rest), last)
            : node(last, rootByPath(leafHash, m - k, n - k, rest));
    }

    static int pathLength(int m, int n) {
        if (n == 1) {
            return 0;
        }
        int k = half(n);
        return 1 + (m < k ? pathLength(m, k) : pathLength(m - k, n - k));
    }

    static int bridgeLength(int m, int n, boolean whole) {
        if (m == n) {
            return whole ? 0 : 1;
        }
        int k = half(n);
        return 1 + (m <= k ? bridgeLength(m, k, whole) : bridgeLength(m - k, n - k, false));
    }

    /** Both roots that the bridge B(m, n, whole) belongs to; start is the first root where the bridge leaves it out. */
    static long[] rootsByBridge(long start, int m, int n, boolean whole, List<Long> bridge) {
        if (m == n) {
            long both = whole ? start : bridge.get(0);
            return new long[] {both, both};
        }
        int k = half(n);
        long last = bridge.get(bridge.size() - 1);
        List<Long> rest = bridge.subList(0, bridge.size() - 1);
        if (m <= k) {
            long[] inner = rootsByBridge(start, m, k, whole, rest);
            return new long[] {inner[0], node(inner[1], last)};
        }
        long[] inner = rootsByBridge(start, m - k, n - k, false, rest);
        return new long[] {node(last, inner[0]), node(last, inner[1])};
    }

    // ---- the disk and the log

    private Head latestHead() {
        if (heads[0] == null || heads[1] == null) {
            return heads[0] == null ? heads[1] : heads[0];
        }
        return heads[0].number() > heads[1].number() ? heads[0] : heads[1];
    }

    int published() {
        return latestHead() == null ? 0 : latestHead().size();
    }

    private boolean write(Runnable change) {
        if (ordered == 0) {
            ordered = -1;
            down = true;
            return false;
        }
        ordered = ordered > 0 ? ordered - 1 : ordered;
        writes++;
        change.run();
        return true;
    }

    private boolean makeRight(long[] tile, long[] right) {
        return Arrays.equals(tile, right) || write(() -> System.arraycopy(right, 0, tile, 0, 8));
    }

    private boolean makeTilesRight(int n) {
        for (int t = 0; t < 8; t++) {
            long[] right = new long[8];
            for (int i = 0; i < 8 && 8 * t + i < n; i++) {
                right[i] = leaf(entries.get(8 * t + i));
            }
            if (!makeRight(lower[t], right)) {
                return false;
            }
        }
        long[] right = new long[8];
        for (int i = 0; i < n / 8; i++) {
            right[i] = rootOfRow(entries.subList(8 * i, 8 * i + 8));
        }
        return makeRight(upper, right);
    }

    // ---- the face

    int append(long e) {
        if (down) {
            return TileLog.DOWN;
        }
        if (entries.size() == 64) {
            return TileLog.NONE;
        }
        return write(() -> entries.add(e)) ? entries.size() - 1 : TileLog.CRASHED;
    }

    int publish() {
        if (down) {
            return TileLog.DOWN;
        }
        if (entries.size() != published()) {
            Head head = new Head(latest() + 1, entries.size(), rootOfRow(entries));
            boolean done = makeTilesRight(entries.size()) && write(() -> heads[head.number() % 2] = head);
            if (!done) {
                return TileLog.CRASHED;
            }
        }
        return latest();
    }

    boolean order(int n) {
        if (n < 0 || n > 20) {
            return false;
        }
        ordered = n;
        return true;
    }

    int recover() {
        if (!down) {
            return TileLog.NONE;
        }
        if (!makeTilesRight(published())) {
            return TileLog.CRASHED;
        }
        down = false;
        return entries.size();
    }

    int writes() {
        return writes;
    }

    int length() {
        return down ? TileLog.DOWN : entries.size();
    }

    private Head headAt(int place) {
        return place == 0 || place == 1 ? heads[place] : null;
    }

    int size(int place) {
        return headAt(place) == null ? TileLog.NONE : headAt(place).size();
    }

    long root(int place) {
        return headAt(place) == null ? 0 : headAt(place).root();
    }

    int latest() {
        return latestHead() == null ? 0 : latestHead().number();
    }

    long tile(int band, int t, int i) {
        boolean there = i >= 0 && i <= 7 && (band == 0 && t >= 0 && t <= 7 || band == 1 && t == 0);
        return !there ? 0 : band == 0 ? lower[t][i] : upper[i];
    }

    long entry(int i) {
        return i >= 0 && i < entries.size() ? entries.get(i) : 0;
    }

    int find(long e) {
        if (down) {
            return TileLog.DOWN;
        }
        // Leaf hashes of different entries differ (every step of the leaf's hash can be undone).
        int place = entries.subList(0, published()).indexOf(e);
        return place < 0 ? TileLog.NONE : place;
    }

    long rootOf(int n) {
        return n >= 0 && n <= entries.size() ? rootOfRow(entries.subList(0, n)) : 0;
    }

    int include(int m, int n) {
        if (down) {
            return TileLog.DOWN;
        }
        if (n < 1 || n > published() || m < 0 || m > n - 1) {
            return TileLog.NONE;
        }
        proof = path(m, entries.subList(0, n));
        return proof.size();
    }

    int extend(int m, int n) {
        if (down) {
            return TileLog.DOWN;
        }
        if (n < 1 || n > published() || m < 1 || m > n) {
            return TileLog.NONE;
        }
        proof = bridge(m, entries.subList(0, n), true);
        return proof.size();
    }

    long proof(int i) {
        return i >= 0 && i < proof.size() ? proof.get(i) : 0;
    }

    boolean offer(int i, long h) {
        if (i < 0 || i > 7) {
            return false;
        }
        offer[i] = h;
        return true;
    }

    boolean offers(int n) {
        if (n < 0 || n > 8) {
            return false;
        }
        offerLength = n;
        return true;
    }

    boolean shows(long e, int m, int n, long root) {
        if (n < 1 || n > 1000000 || m < 0 || m > n - 1) {
            return false;
        }
        int f = m;
        int g = n - 1;
        long r = leaf(e);
        for (long p : Arrays.copyOf(offer, offerLength)) {
            if (g == 0) {
                return false;
            }
            if (f % 2 == 1 || f == g) {
                r = node(p, r);
                while (f % 2 == 0 && f != 0) {
                    f /= 2;
                    g /= 2;
                }
            } else {
                r = node(r, p);
            }
            f /= 2;
            g /= 2;
        }
        return g == 0 && r == root;
    }

    boolean leads(int m, int n, long first, long second) {
        if (n < 1 || n > 1000000 || m < 1 || m > n) {
            return false;
        }
        if (m == n) {
            return offerLength == 0 && first == second;
        }
        List<Long> row = new ArrayList<>();
        if (Integer.bitCount(m) == 1) {
            row.add(first);
        }
        for (int i = 0; i < offerLength; i++) {
            row.add(offer[i]);
        }
        if (row.isEmpty()) {
            return false;
        }
        int f = m - 1;
        int g = n - 1;
        while (f % 2 == 1) {
            f /= 2;
            g /= 2;
        }
        long a = row.get(0);
        long b = row.get(0);
        for (long p : row.subList(1, row.size())) {
            if (g == 0) {
                return false;
            }
            if (f % 2 == 1 || f == g) {
                a = node(p, a);
                b = node(p, b);
                while (f % 2 == 0 && f != 0) {
                    f /= 2;
                    g /= 2;
                }
            } else {
                b = node(b, p);
            }
            f /= 2;
            g /= 2;
        }
        return g == 0 && a == first && b == second;
    }
}
