import java.util.ArrayList;
import java.util.List;

/** The sentences of promises 15 to 21, each with a test of its own. */
final class ProofPromisesTest {
    private static final int LOW = Logs.LOW;
    private static final int HIGH = Logs.HIGH;
    /** The greatest size, up to 1000000, of a log of which eight hashes can show an entry. */
    private static final int GREATEST_SHOWN = 999985;

    public static void main(String[] args) {
        includeMakesTheProof();
        includeAnswersTheLength();
        includeRefused();
        extendMakesTheProof();
        extendAnswersTheLength();
        extendRefused();
        proofHash();
        proofWhenThereIsNone();
        proofStays();
        offerBecomes();
        offerStays();
        offerRefused();
        offersBecomes();
        offersKeepsHashes();
        offersRefused();
        showsWhatWasIncluded();
        showsRefused();
        showsTheGreatest();
        leadsWhereItWasExtended();
        leadsRefused();
        leadsTheGreatest();
        Check.end();
    }

    private static void offerRow(TileLog log, List<Long> hashes) {
        for (int i = 0; i < hashes.size(); i++) {
            log.offer(i, hashes.get(i));
        }
        log.offers(hashes.size());
    }

    private static void dueProof(TileLog log, String call, List<Long> want) {
        for (int i = 0; i < want.size(); i++) {
            Check.due(call + ", proof(" + i + ")", log.proof(i), want.get(i));
        }
        Check.due(call + ", behind it", log.proof(want.size()), 0);
    }

    /** The proof as it is now becomes the offer. */
    private static void offerProof(TileLog log, int length) {
        for (int i = 0; i < length; i++) {
            log.offer(i, log.proof(i));
        }
        log.offers(length);
    }

    // ---- promises 15 and 16

    private static void includeMakesTheProof() {
        Check.sentence("15", "The proof becomes the PATH of place m in the first n entries.");
        TileLog log = Logs.published(64);
        int[][] pairs = {{0, 1}, {0, 2}, {1, 2}, {0, 64}, {63, 64}, {31, 64}, {32, 64}, {32, 33}, {31, 33}, {62, 63},
            {6, 7}, {3, 11}, {10, 11}};
        for (int[] pair : pairs) {
            String call = "include(" + pair[0] + ", " + pair[1] + ")";
            List<Long> want = Reference.path(pair[0], Logs.row(pair[1]));
            log.include(pair[0], pair[1]);
            dueProof(log, call, want);
        }
    }

    private static void includeAnswersTheLength() {
        Check.sentence("15", "Answers how long it is");
        TileLog log = Logs.published(64);
        Check.due("include(0, 1)", log.include(0, 1), 0);
        Check.due("include(1, 2)", log.include(1, 2), 1);
        Check.due("include(32, 33)", log.include(32, 33), 1);
        Check.due("include(0, 33)", log.include(0, 33), 6);
        Check.due("include(0, 64)", log.include(0, 64), 6);
        Check.due("include(63, 64)", log.include(63, 64), 6);
        Check.due("include(62, 63)", log.include(62, 63), 5);
    }

    private static void includeRefused() {
        Check.sentence("15", "NONE when n is not from 1 to the published size, or m is not from 0 to n - 1, DOWN.");
        TileLog log = Logs.published(11);
        Logs.fill(log, 14);
        Check.due("the greatest n and m", log.include(10, 11), 2);
        int[][] refused = {{0, 0}, {-1, 0}, {0, -1}, {-1, -1}, {-2, -1}, {0, 12}, {11, 12}, {0, 14}, {0, 15}, {0, 64},
            {-1, 11}, {11, 11}, {12, 11}, {1, 1}, {-1, 1}, {LOW, 5}, {HIGH, 5}, {0, LOW}, {0, HIGH}, {LOW, LOW},
            {HIGH, HIGH}, {-1, LOW}, {HIGH - 1, HIGH}, {LOW, HIGH}, {HIGH, LOW}};
        for (int[] pair : refused) {
            Check.due("include(" + pair[0] + ", " + pair[1] + ")", log.include(pair[0], pair[1]), TileLog.NONE);
            Check.due("the proof stays", log.proof(1), Logs.rootOf(0, 8));
        }
        Check.due("no entries", new TileLog().include(0, 0), TileLog.NONE);
        Check.due("none is published", Logs.filled(3).include(0, 1), TileLog.NONE);
        TileLog full = Logs.published(64);
        Check.due("include(64, 64)", full.include(64, 64), TileLog.NONE);
        Check.due("include(64, 65)", full.include(64, 65), TileLog.NONE);
        Check.due("include(0, 65)", full.include(0, 65), TileLog.NONE);
        Check.due("DOWN", Logs.fallen(3).include(0, 1), TileLog.DOWN);
        Check.due("DOWN, and n too large", Logs.fallenAtHead(3, 5).include(0, 4), TileLog.DOWN);
        Check.due("DOWN, and m too small", Logs.fallen(3).include(-1, 3), TileLog.DOWN);
        TileLog up = Logs.fallenAtHead(3, 5);
        up.recover();
        Check.due("what a crash kept from being published", up.include(0, 4), TileLog.NONE);
    }

    private static void extendMakesTheProof() {
        Check.sentence("16", "The proof becomes the BRIDGE of m in the first n entries.");
        TileLog log = Logs.published(64);
        int[][] pairs = {{1, 1}, {1, 2}, {2, 2}, {1, 64}, {63, 64}, {64, 64}, {31, 64}, {32, 64}, {33, 64}, {32, 33},
            {33, 33}, {5, 11}, {8, 11}, {10, 11}};
        for (int[] pair : pairs) {
            String call = "extend(" + pair[0] + ", " + pair[1] + ")";
            List<Long> want = Reference.bridge(pair[0], Logs.row(pair[1]), true);
            log.extend(pair[0], pair[1]);
            dueProof(log, call, want);
        }
    }

    private static void extendAnswersTheLength() {
        Check.sentence("16", "Answers how long it is");
        TileLog log = Logs.published(64);
        Check.due("extend(1, 1)", log.extend(1, 1), 0);
        Check.due("extend(64, 64)", log.extend(64, 64), 0);
        Check.due("extend(63, 63)", log.extend(63, 63), 0);
        Check.due("extend(1, 2)", log.extend(1, 2), 1);
        Check.due("extend(32, 64)", log.extend(32, 64), 1);
        Check.due("extend(1, 64)", log.extend(1, 64), 6);
        Check.due("extend(33, 64), the longest", log.extend(33, 64), 7);
        Check.due("extend(63, 64), the longest", log.extend(63, 64), 7);
        Check.due("extend(62, 64)", log.extend(62, 64), 6);
    }

    private static void extendRefused() {
        Check.sentence("16", "NONE when n is not from 1 to the published size, or m is not from 1 to n, DOWN.");
        TileLog log = Logs.published(11);
        Logs.fill(log, 14);
        Check.due("the greatest n and the least m", log.extend(1, 11), 4);
        int[][] refused = {{0, 0}, {1, 0}, {-1, 0}, {0, 1}, {0, 11}, {-1, 11}, {12, 11}, {2, 1}, {1, 12}, {12, 12},
            {11, 12}, {14, 14}, {1, 15}, {1, 64}, {-1, -1}, {0, -1}, {LOW, 5}, {HIGH, 5}, {1, LOW}, {1, HIGH},
            {LOW, LOW}, {HIGH, HIGH}, {LOW, HIGH}, {HIGH, LOW}};
        for (int[] pair : refused) {
            Check.due("extend(" + pair[0] + ", " + pair[1] + ")", log.extend(pair[0], pair[1]), TileLog.NONE);
            Check.due("the proof stays", log.proof(0), Logs.leafOf(1));
        }
        Check.due("no entries", new TileLog().extend(0, 0), TileLog.NONE);
        Check.due("none is published", Logs.filled(3).extend(1, 1), TileLog.NONE);
        TileLog full = Logs.published(64);
        Check.due("extend(65, 64)", full.extend(65, 64), TileLog.NONE);
        Check.due("extend(65, 65)", full.extend(65, 65), TileLog.NONE);
        Check.due("extend(1, 65)", full.extend(1, 65), TileLog.NONE);
        Check.due("DOWN", Logs.fallen(3).extend(1, 2), TileLog.DOWN);
        Check.due("DOWN, and n too large", Logs.fallenAtHead(3, 5).extend(1, 4), TileLog.DOWN);
        Check.due("DOWN, and m too small", Logs.fallen(3).extend(0, 3), TileLog.DOWN);
        TileLog up = Logs.fallenAtHead(3, 5);
        up.recover();
        Check.due("what a crash kept from being published", up.extend(1, 4), TileLog.NONE);
    }

    // ---- promise 17

    private static void proofHash() {
        Check.sentence("17", "Hash i of the proof");
        TileLog log = Logs.published(64);
        log.extend(63, 64);
        long[] want = {Logs.leafOf(62), Logs.leafOf(63), Logs.rootOf(60, 2), Logs.rootOf(56, 4), Logs.rootOf(48, 8),
            Logs.rootOf(32, 16), Logs.rootOf(0, 32)};
        for (int i = 0; i < want.length; i++) {
            Check.due("proof(" + i + ")", log.proof(i), want[i]);
        }
    }

    private static void proofWhenThereIsNone() {
        Check.sentence("17", "0 when there is none.");
        TileLog log = Logs.published(64);
        Check.due("before there is one", log.proof(0), 0);
        log.extend(63, 64);
        for (int i : new int[] {-1, 7, 8, 63, 64, LOW, HIGH}) {
            Check.due("proof(" + i + ")", log.proof(i), 0);
        }
        log.include(2, 3);
        Check.due("the only one", log.proof(0), Logs.rootOf(0, 2));
        for (int i = 1; i < 8; i++) {
            Check.due("what a longer one had is gone: proof(" + i + ")", log.proof(i), 0);
        }
        log.extend(63, 64);
        log.extend(5, 5);
        for (int i = 0; i < 8; i++) {
            Check.due("an empty bridge: proof(" + i + ")", log.proof(i), 0);
        }
        log.include(7, 8);
        log.include(0, 1);
        for (int i = 0; i < 8; i++) {
            Check.due("an empty path: proof(" + i + ")", log.proof(i), 0);
        }
    }

    /** Nothing but include and extend changes the proof. */
    private static void proofStays() {
        TileLog log = Logs.published(3);
        log.include(2, 3);
        long pair = Logs.rootOf(0, 2);
        Logs.fill(log, 9);
        Check.due("behind append", log.proof(0), pair);
        log.publish();
        Check.due("behind publish", log.proof(0), pair);
        log.offer(0, 5);
        log.offers(3);
        Check.due("behind offer", log.proof(0), pair);
        log.order(0);
        log.append(1);
        Check.due("while down", log.proof(0), pair);
        Check.due("while down, behind it", log.proof(1), 0);
        log.recover();
        Check.due("behind recovery", log.proof(0), pair);
    }

    // ---- promises 18 and 19

    private static final long[] OFFERED = {40, -41, 0, Long.MIN_VALUE, Long.MAX_VALUE, 45, 46, -1};

    /** A log with eight hashes offered, and a length. */
    private static TileLog offering(int length) {
        TileLog log = new TileLog();
        for (int i = 0; i < 8; i++) {
            Check.due("offer(" + i + ")", log.offer(i, OFFERED[i]), true);
        }
        Check.due("offers(" + length + ")", log.offers(length), true);
        return log;
    }

    /** Whether the offer has this length and these hashes up to there. */
    private static boolean offers(TileLog log, int length, long... hashes) {
        long r = Reference.leaf(5);
        for (int i = 0; i < length; i++) {
            r = Reference.node(r, hashes[i]);
        }
        return log.shows(5, 0, 1 << length, r);
    }

    private static void offerBecomes() {
        Check.sentence("18", "Hash i of the offer becomes h.");
        for (int i = 0; i < 8; i++) {
            TileLog log = offering(8);
            Check.due("all eight", offers(log, 8, OFFERED), true);
            long[] changed = OFFERED.clone();
            changed[i] = 99;
            log.offer(i, 99);
            Check.due("offer(" + i + ", 99)", offers(log, 8, changed), true);
            Check.due("not as it was", offers(log, 8, OFFERED), false);
            log.offer(i, OFFERED[i]);
            Check.due("and back", offers(log, 8, OFFERED), true);
        }
        TileLog behind = offering(3);
        behind.offer(3, 99);
        behind.offer(7, 99);
        Check.due("the length stays", offers(behind, 3, OFFERED), true);
        behind.offers(4);
        Check.due("behind the length too", offers(behind, 4, OFFERED[0], OFFERED[1], OFFERED[2], 99), true);
    }

    /** Nothing but offer and offers changes the offer. */
    private static void offerStays() {
        TileLog log = offering(5);
        Logs.fill(log, 9);
        Check.due("behind append", offers(log, 5, OFFERED), true);
        log.publish();
        Check.due("behind publish", offers(log, 5, OFFERED), true);
        log.extend(7, 9);
        Check.due("behind extend", offers(log, 5, OFFERED), true);
        log.include(7, 9);
        Check.due("behind include", offers(log, 5, OFFERED), true);
        log.order(0);
        log.append(1);
        Check.due("while down", offers(log, 5, OFFERED), true);
        log.recover();
        Check.due("behind recovery", offers(log, 5, OFFERED), true);
        Check.due("and asked again", offers(log, 5, OFFERED), true);
        log.offers(8);
        Check.due("its hashes behind that", offers(log, 8, OFFERED), true);
    }

    private static void offerRefused() {
        Check.sentence("18", "Answers true; false when i is not 0 .. 7.");
        TileLog log = offering(8);
        Check.due("offer(0)", log.offer(0, OFFERED[0]), true);
        Check.due("offer(7)", log.offer(7, OFFERED[7]), true);
        for (int i : new int[] {-1, 8, 9, -8, LOW, HIGH}) {
            Check.due("offer(" + i + ")", log.offer(i, 99), false);
            Check.due("nothing changes", offers(log, 8, OFFERED), true);
        }
        TileLog down = Logs.fallen(3);
        Check.due("while down", down.offer(0, 7), true);
        Check.due("refused while down", down.offer(8, 7), false);
        down.offers(1);
        Check.due("it was offered", offers(down, 1, 7), true);
    }

    private static void offersBecomes() {
        Check.sentence("19", "The offer's length becomes n");
        for (int n = 0; n <= 8; n++) {
            TileLog log = offering(n);
            for (int other = 0; other <= 8; other++) {
                Check.due("length " + n + " taken for " + other, offers(log, other, OFFERED), other == n);
            }
        }
    }

    private static void offersKeepsHashes() {
        Check.sentence("19", "(its hashes, also behind that, stay)");
        for (int n = 0; n <= 8; n++) {
            TileLog log = offering(8);
            log.offers(n);
            Check.due("those before it", offers(log, n, OFFERED), true);
            log.offers(8);
            Check.due("those behind it", offers(log, 8, OFFERED), true);
        }
    }

    private static void offersRefused() {
        Check.sentence("19", "Answers true; false when n is not 0 .. 8.");
        Check.due("offers(0)", offering(3).offers(0), true);
        Check.due("offers(8)", offering(3).offers(8), true);
        for (int n : new int[] {-1, 9, 10, -8, LOW, HIGH}) {
            TileLog log = offering(3);
            Check.due("offers(" + n + ")", log.offers(n), false);
            Check.due("nothing changes", offers(log, 3, OFFERED), true);
        }
        TileLog down = Logs.fallen(3);
        Check.due("while down", down.offers(2), true);
        Check.due("refused while down", down.offers(9), false);
        Check.due("the length is two", offers(down, 2, 0, 0), true);
    }

    // ---- promises 20 and 21

    private static void showsWhatWasIncluded() {
        Check.sentence("20", "Whether the offer shows that e is at place m of a log with n entries and this root");
        for (int n : new int[] {1, 2, 3, 7, 8, 9, 33, 63, 64}) {
            for (int m : new int[] {0, n / 2, n - 1}) {
                TileLog log = Logs.published(n);
                offerProof(log, log.include(m, n));
                long root = log.root(1);
                Check.due("the entry", log.shows(100 + m, m, n, root), true);
                Check.due("another entry", log.shows(99, m, n, root), false);
                Check.due("another place", log.shows(100 + m, m == 0 ? n - 1 : 0, n, root), n == 1);
                Check.due("another root", log.shows(100 + m, m, n, ~root), false);
                log.order(0);
                log.append(1);
                if (n < 64) {
                    Check.due("it is down", log.length(), TileLog.DOWN);
                }
                Check.due("the entry, while down", log.shows(100 + m, m, n, root), true);
            }
        }
    }

    private static List<Long> hashes(int length) {
        List<Long> hashes = new ArrayList<>();
        for (int i = 0; i < length; i++) {
            hashes.add(Reference.mix(length, i));
        }
        return hashes;
    }

    private static void showsRefused() {
        Check.sentence("20", "false when m is not from 0 to n - 1, or n is not 1 .. 1000000.");
        long leaf = Reference.leaf(5);
        int[][] refused = {{-1, 1}, {1, 1}, {-1, 2}, {2, 2}, {3, 2}, {0, 0}, {-1, 0}, {1, 0}, {0, -1}, {-1, -1}, {-2, -1},
            {LOW, 1}, {HIGH, 1}, {LOW, 2}, {HIGH, 2}, {0, LOW}, {-1, LOW}, {LOW, LOW}, {0, HIGH}, {HIGH, HIGH},
            {HIGH - 1, HIGH}, {LOW, HIGH}, {HIGH, LOW}, {1000000, 1000000}, {1000001, 1000001}};
        for (int[] pair : refused) {
            TileLog log = new TileLog();
            log.offer(0, 9);
            for (int length = 0; length <= 1; length++) {
                log.offers(length);
                for (long root : new long[] {leaf, Reference.node(leaf, 9), Reference.node(9, leaf), 0, 9}) {
                    String call = "shows(5, " + pair[0] + ", " + pair[1] + ", " + root + ")";
                    Check.due(call, log.shows(5, pair[0], pair[1], root), false);
                }
            }
        }
        for (int n : new int[] {1000001, 1000002, 1000448, 1048577, 1 << 30, (1 << 30) + 1, HIGH}) {
            int length = Reference.pathLength(n - 1, n);
            if (length <= 8) {
                TileLog log = new TileLog();
                offerRow(log, hashes(length));
                long root = Reference.rootByPath(leaf, n - 1, n, hashes(length));
                Check.due("the walk alone would show place " + (n - 1), log.shows(5, n - 1, n, root), false);
            }
        }
    }

    private static void showsTheGreatest() {
        Check.due("its last place takes all eight", Reference.pathLength(GREATEST_SHOWN - 1, GREATEST_SHOWN), 8);
        for (int n : new int[] {257, 65537, 524289, 999937, GREATEST_SHOWN}) {
            TileLog log = new TileLog();
            List<Long> path = hashes(Reference.pathLength(n - 1, n));
            offerRow(log, path);
            long root = Reference.rootByPath(Reference.leaf(5), n - 1, n, path);
            Check.due("the last place of " + n, log.shows(5, n - 1, n, root), true);
            Check.due("the place before it", log.shows(5, n - 2, n, root), false);
            Check.due("no place", log.shows(5, n, n, root), false);
        }
    }

    private static void leadsWhereItWasExtended() {
        Check.sentence("21", "Whether the offer leads from m entries with a first root to n with a second one");
        for (int n : new int[] {1, 2, 3, 7, 8, 9, 33, 63, 64}) {
            for (int m : new int[] {1, (n + 1) / 2, n}) {
                TileLog log = Logs.published(n);
                offerProof(log, log.extend(m, n));
                long first = log.rootOf(m);
                long second = log.root(1);
                Check.due("it leads", log.leads(m, n, first, second), true);
                Check.due("from another root", log.leads(m, n, ~first, second), false);
                Check.due("to another root", log.leads(m, n, first, ~second), false);
                log.order(0);
                log.append(1);
                Check.due("it leads, while down", log.leads(m, n, first, second), true);
            }
        }
    }

    private static void leadsRefused() {
        Check.sentence("21", "false when m is not from 1 to n, or n is not 1 .. 1000000.");
        int[][] refused = {{0, 0}, {0, 1}, {-1, 1}, {2, 1}, {0, 2}, {-1, 2}, {3, 2}, {1, 0}, {-1, -1}, {1, -1}, {0, -1},
            {LOW, 1}, {HIGH, 1}, {LOW, 2}, {HIGH, 2}, {1, LOW}, {LOW, LOW}, {HIGH, HIGH}, {1, HIGH}, {LOW, HIGH},
            {HIGH, LOW}, {1000001, 1000001}, {1000001, 1000000}, {524288, 1000001}, {1, 1000001}, {1 << 30, HIGH}};
        for (int[] pair : refused) {
            TileLog log = new TileLog();
            log.offer(0, 9);
            for (int length = 0; length <= 1; length++) {
                log.offers(length);
                for (long second : new long[] {6, Reference.node(6, 9), Reference.node(9, 6), 0}) {
                    String call = "leads(" + pair[0] + ", " + pair[1] + ", 6, " + second + ")";
                    Check.due(call, log.leads(pair[0], pair[1], 6, second), false);
                }
                Check.due("no roots", log.leads(pair[0], pair[1], 0, 0), false);
                Check.due("the offer's root", log.leads(pair[0], pair[1], 9, 9), false);
            }
        }
    }

    private static void leadsTheGreatest() {
        int[][] pairs = {{1000000, 1000000}, {524288, 1000000}, {999424, 1000000}, {999936, 1000000}, {999936, 999999},
            {256, 257}, {1, 256}, {524288, 524289}, {524289, 524290}};
        for (int[] pair : pairs) {
            TileLog log = new TileLog();
            int length = Reference.bridgeLength(pair[0], pair[1], true);
            List<Long> bridge = hashes(length);
            Check.due("eight hashes are enough for " + pair[0] + " to " + pair[1], length <= 8, true);
            offerRow(log, bridge);
            long[] roots = Reference.rootsByBridge(6, pair[0], pair[1], true, bridge);
            Check.due("from " + pair[0] + " to " + pair[1], log.leads(pair[0], pair[1], roots[0], roots[1]), true);
            Check.due("to another root", log.leads(pair[0], pair[1], roots[0], roots[1] + 1), false);
        }
    }

    private ProofPromisesTest() { }
}
