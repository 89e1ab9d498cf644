import java.util.ArrayList;
import java.util.List;

/** Every proof of small logs, whole and spoilt, and chosen ones of logs of up to 1000000 entries. */
final class ProofsTest {
    private static final int MOST = 64;
    private static final long[] ROW = new long[MOST];
    private static final List<Long> ENTRIES = new ArrayList<>();

    public static void main(String[] args) {
        for (int i = 0; i < MOST; i++) {
            ROW[i] = (i - 20L) * i * 1234567891011L;
            ENTRIES.add(ROW[i]);
        }
        for (int n = 1; n <= MOST; n++) {
            for (int m = 0; m < n; m++) {
                inclusion(m, n);
                extension(m + 1, n);
            }
        }
        largeLogs();
        Check.end();
    }

    private static TileLog fullLog() {
        TileLog log = new TileLog();
        for (long e : ROW) {
            log.append(e);
        }
        log.publish();
        return log;
    }

    private static void offerAll(TileLog log, List<Long> hashes) {
        for (int i = 0; i < hashes.size(); i++) {
            log.offer(i, hashes.get(i));
        }
        log.offers(hashes.size());
    }

    private static List<Long> proofOf(TileLog log, int length) {
        List<Long> hashes = new ArrayList<>();
        for (int i = 0; i < length; i++) {
            hashes.add(log.proof(i));
        }
        Check.due("no hash behind the proof", log.proof(length), 0);
        return hashes;
    }

    private static void inclusion(int m, int n) {
        TileLog log = fullLog();
        String call = "include(" + m + ", " + n + ")";
        List<Long> want = Reference.path(m, ENTRIES.subList(0, n));
        Check.due(call, log.include(m, n), want.size());
        List<Long> got = proofOf(log, want.size());
        Check.due(call + " has the path", got.equals(want), true);

        long root = log.rootOf(n);
        offerAll(log, got);
        Check.due(call + " shows", log.shows(ROW[m], m, n, root), true);
        Check.due(call + " for another entry", log.shows(ROW[m] + 1, m, n, root), false);
        Check.due(call + " for another place", log.shows(ROW[m], (m + 1) % n, n, root), n == 1);
        Check.due(call + " for another root", log.shows(ROW[m], m, n, root + 1), false);
        log.offers(got.size() + 1);
        Check.due(call + " too long", log.shows(ROW[m], m, n, root), false);
        if (got.size() > 0) {
            log.offers(got.size() - 1);
            Check.due(call + " too short", log.shows(ROW[m], m, n, root), false);
            log.offers(got.size());
        }
        for (int i = 0; i < got.size(); i++) {
            log.offer(i, got.get(i) ^ 1);
            Check.due(call + " spoilt", log.shows(ROW[m], m, n, root), false);
            log.offer(i, got.get(i));
        }
    }

    private static void extension(int m, int n) {
        TileLog log = fullLog();
        String call = "extend(" + m + ", " + n + ")";
        List<Long> want = Reference.bridge(m, ENTRIES.subList(0, n), true);
        Check.due(call, log.extend(m, n), want.size());
        List<Long> got = proofOf(log, want.size());
        Check.due(call + " has the bridge", got.equals(want), true);

        long first = log.rootOf(m);
        long second = log.rootOf(n);
        offerAll(log, got);
        Check.due(call + " leads", log.leads(m, n, first, second), true);
        Check.due(call + " from another root", log.leads(m, n, first + 1, second), false);
        Check.due(call + " to another root", log.leads(m, n, first, second + 1), false);
        log.offers(got.size() + 1);
        Check.due(call + " too long", log.leads(m, n, first, second), false);
        if (got.size() > 0) {
            log.offers(got.size() - 1);
            Check.due(call + " too short", log.leads(m, n, first, second), false);
            log.offers(got.size());
        }
        for (int i = 0; i < got.size(); i++) {
            log.offer(i, got.get(i) ^ 1);
            Check.due(call + " spoilt", log.leads(m, n, first, second), false);
            log.offer(i, got.get(i));
        }
    }

    private static List<Long> madeUp(int length) {
        List<Long> hashes = new ArrayList<>();
        for (int i = 0; i < length; i++) {
            hashes.add(Reference.mix(i, length));
        }
        return hashes;
    }

    /** A proof of made-up hashes has the root that it is folded to; only eight can be offered. */
    private static void largeLogs() {
        int[] sizes = {65, 127, 128, 129, 255, 256, 257, 4097, 65537, 524289, 999424, 999425, 999936, 999999,
            1000000, 1000001, 1048577};
        int shown = 0;
        int led = 0;
        for (int n : sizes) {
            int[] places = {0, 1, 63, 64, 65, n / 2, 524288, 983040, 999424, 999936, 999937, n - 2, n - 1, n};
            for (int m : places) {
                if (m < n && Reference.pathLength(m, n) <= 8) {
                    largeInclusion(m, n);
                    shown++;
                }
                if (m >= 1 && m <= n && Reference.bridgeLength(m, n, true) <= 8) {
                    largeExtension(m, n);
                    led++;
                }
            }
        }
        Check.due("there were large inclusions", shown > 20, true);
        Check.due("there were large extensions", led > 20, true);
        Check.due("one of them goes to 1000000", Reference.bridgeLength(999936, 1000000, true) <= 8, true);
        Check.due("one of them would be beyond that", Reference.pathLength(1000000, 1000001) <= 8, true);
    }

    private static void largeInclusion(int m, int n) {
        TileLog log = new TileLog();
        List<Long> path = madeUp(Reference.pathLength(m, n));
        offerAll(log, path);
        long root = Reference.rootByPath(Reference.leaf(77), m, n, path);
        Check.due("shows(77, " + m + ", " + n + ", ..)", log.shows(77, m, n, root), n <= 1000000);
        Check.due("shows(78, " + m + ", " + n + ", ..)", log.shows(78, m, n, root), false);
    }

    private static void largeExtension(int m, int n) {
        TileLog log = new TileLog();
        List<Long> bridge = madeUp(Reference.bridgeLength(m, n, true));
        offerAll(log, bridge);
        long[] roots = Reference.rootsByBridge(4321, m, n, true, bridge);
        Check.due("leads(" + m + ", " + n + ", ..)", log.leads(m, n, roots[0], roots[1]), n <= 1000000);
        Check.due("leads(" + m + ", " + n + ", another)", log.leads(m, n, roots[0] + 1, roots[1]), false);
    }

    private ProofsTest() { }
}
