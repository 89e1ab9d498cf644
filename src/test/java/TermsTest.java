import java.util.List;

/** The sentences under "Terms", each with a test of its own; the last two of them are RefusedTest's. */
final class TermsTest {
    private static final int[] POWERS = {1, 2, 4, 8, 16, 32, 64};

    public static void main(String[] args) {
        hashesWrap();
        nodesWrap();
        hashesAreUnhashed();
        half();
        root();
        path();
        bridge();
        entriesOfTheDisk();
        tilesOfBandZero();
        tileOfBandOne();
        headsOfTheDisk();
        aWrite();
        theLatest();
        rightOfBandZero();
        rightOfBandOne();
        rightWithHashesOfZero();
        lengthAndPublishedSize();
        toAppend();
        toPublishTiles();
        toPublishTheHead();
        numbersAndPlaces();
        aCrash();
        recovery();
        recoveryPutsTheSizeBack();
        theProof();
        theOffer();
        shows();
        showsEnds();
        leadsForTheSameSize();
        leadsWithTheFirstRoot();
        leadsOtherwise();
        leadsEnds();
        sameHashes();
        Check.end();
    }

    private static void dueTile(TileLog log, int t, int published) {
        for (int i = 0; i < 8; i++) {
            int place = 8 * t + i;
            Check.due("tile(0, " + t + ", " + i + ")", log.tile(0, t, i), place < published ? Logs.leafOf(place) : 0);
        }
    }

    /** Every tile is right for a size. */
    private static void dueTiles(TileLog log, int published) {
        for (int t = 0; t < 8; t++) {
            dueTile(log, t, published);
        }
        for (int i = 0; i < 8; i++) {
            long want = 8 * i + 8 <= published ? Logs.rootOf(8 * i, 8) : 0;
            Check.due("tile(1, 0, " + i + ")", log.tile(1, 0, i), want);
        }
    }

    private static void offerRow(TileLog log, long... hashes) {
        for (int i = 0; i < hashes.length; i++) {
            log.offer(i, hashes[i]);
        }
        log.offers(hashes.length);
    }

    // ---- hashes and rows

    private static void hashesWrap() {
        Check.sentence("Terms", "HASHES are longs, worked out in longs that wrap.");
        long[][] leaves = {
            {0, 4301775855276143352L}, {1, 5376150825127638120L}, {-1, -5614992257043721297L},
            {5, 9023930871484788952L}, {Long.MIN_VALUE, 6042764824739930451L},
            {Long.MAX_VALUE, -6962946900870864505L},
        };
        for (long[] leaf : leaves) {
            TileLog log = new TileLog();
            log.append(leaf[0]);
            Check.due("the leaf of " + leaf[0], log.rootOf(1), leaf[1]);
            Check.due("shows for " + leaf[0], log.shows(leaf[0], 0, 1, leaf[1]), true);
        }
    }

    private static void nodesWrap() {
        Check.sentence("Terms", "The hash of a NODE over two hashes l and r: MIX(MIX(l, r), 2).");
        TileLog log = new TileLog();
        log.append(1);
        log.append(2);
        Check.due("the node over two leaves", log.rootOf(2), -4903395876876453830L);
        log.append(3);
        Check.due("the node over a node and a leaf", log.rootOf(3), 5785205251079815693L);
        for (int i = 4; i <= 64; i++) {
            log.append(i);
        }
        Check.due("63 nodes", log.rootOf(64), -4890943706741354128L);
    }

    /** The tests below go back from hashes to entries. */
    private static void hashesAreUnhashed() {
        for (long hash : new long[] {0, 1, -1, Long.MIN_VALUE, Long.MAX_VALUE, 1234567890123L}) {
            Check.due("leaf of the entry", Reference.leaf(Unhash.entryOf(hash)), hash);
            Check.due("node over the right one", Reference.node(77, Unhash.rightOf(hash, 77)), hash);
            Check.due("node over the left one", Reference.node(Unhash.leftOf(hash, -77), -77), hash);
        }
    }

    private static void half() {
        Check.sentence("Terms", "HALF(n), for n above 1, is the greatest power of two below n.");
        TileLog log = Logs.filled(64);
        for (int k : POWERS) {
            if (k > 1) {
                long twoHalves = Reference.node(Logs.rootOf(0, k / 2), Logs.rootOf(k / 2, k / 2));
                Check.due("a power of two is not below itself: rootOf " + k, log.rootOf(k), twoHalves);
            }
            if (k < 64) {
                long lastAlone = Reference.node(Logs.rootOf(0, k), Logs.leafOf(k));
                Check.due("a power of two and 1: rootOf " + (k + 1), log.rootOf(k + 1), lastAlone);
            }
            if (k > 2) {
                long all = Reference.node(Logs.rootOf(0, k / 2), Logs.rootOf(k / 2, k / 2 - 1));
                Check.due("a power of two less 1: rootOf " + (k - 1), log.rootOf(k - 1), all);
            }
        }
    }

    private static void root() {
        Check.sentence("Terms", "ROOT of a row of n entries: 0 for n = 0, the leaf's hash for n = 1");
        Check.due("rootOf(0) of an empty log", new TileLog().rootOf(0), 0);
        TileLog log = Logs.filled(5);
        Check.due("rootOf(0)", log.rootOf(0), 0);
        Check.due("rootOf(1)", log.rootOf(1), Logs.leafOf(0));
        Check.sentence("Terms", "else the node's over ROOT of the first HALF(n) of them and ROOT of the others.");
        long two = Reference.node(Logs.leafOf(0), Logs.leafOf(1));
        long four = Reference.node(two, Reference.node(Logs.leafOf(2), Logs.leafOf(3)));
        Check.due("rootOf(2)", log.rootOf(2), two);
        Check.due("rootOf(3)", log.rootOf(3), Reference.node(two, Logs.leafOf(2)));
        Check.due("rootOf(4)", log.rootOf(4), four);
        Check.due("rootOf(5)", log.rootOf(5), Reference.node(four, Logs.leafOf(4)));
    }

    private static void dueProof(TileLog log, String call, int length, long... hashes) {
        Check.due(call, length, hashes.length);
        for (int i = 0; i < hashes.length; i++) {
            Check.due(call + ", proof(" + i + ")", log.proof(i), hashes[i]);
        }
        Check.due(call + ", behind it", log.proof(hashes.length), 0);
    }

    private static void path() {
        TileLog log = Logs.published(13);
        Check.sentence("Terms", "PATH of place m in a row of n entries (m below n): nothing for n = 1");
        dueProof(log, "include(0, 1)", log.include(0, 1));
        Check.sentence("Terms", "if m is below k, PATH of m in the first k, and then ROOT of the others");
        dueProof(log, "include(0, 2)", log.include(0, 2), Logs.leafOf(1));
        dueProof(log, "include(0, 3)", log.include(0, 3), Logs.leafOf(1), Logs.leafOf(2));
        dueProof(log, "include(7, 13): m = k - 1", log.include(7, 13),
            Logs.leafOf(6), Logs.rootOf(4, 2), Logs.rootOf(0, 4), Logs.rootOf(8, 5));
        Check.sentence("Terms", "otherwise PATH of m - k in the others, and then ROOT of the first k.");
        dueProof(log, "include(1, 2)", log.include(1, 2), Logs.leafOf(0));
        dueProof(log, "include(2, 3)", log.include(2, 3), Logs.rootOf(0, 2));
        dueProof(log, "include(8, 13): m = k", log.include(8, 13),
            Logs.leafOf(9), Logs.rootOf(10, 2), Logs.leafOf(12), Logs.rootOf(0, 8));
        dueProof(log, "include(12, 13): the last", log.include(12, 13), Logs.rootOf(8, 4), Logs.rootOf(0, 8));
    }

    private static void bridge() {
        TileLog log = Logs.published(13);
        Check.sentence("Terms", "for m = n nothing if whole, else ROOT of the row");
        dueProof(log, "extend(1, 1)", log.extend(1, 1));
        dueProof(log, "extend(8, 8)", log.extend(8, 8));
        dueProof(log, "extend(13, 13)", log.extend(13, 13));
        dueProof(log, "extend(3, 4): not whole", log.extend(3, 4),
            Logs.leafOf(2), Logs.leafOf(3), Logs.rootOf(0, 2));
        Check.sentence("Terms", "for m up to k, B(m, first k, whole), and then ROOT of the others");
        dueProof(log, "extend(8, 13): m = k", log.extend(8, 13), Logs.rootOf(8, 5));
        dueProof(log, "extend(7, 13): m = k - 1", log.extend(7, 13),
            Logs.leafOf(6), Logs.leafOf(7), Logs.rootOf(4, 2), Logs.rootOf(0, 4), Logs.rootOf(8, 5));
        dueProof(log, "extend(1, 13): m = 1", log.extend(1, 13),
            Logs.leafOf(1), Logs.rootOf(2, 2), Logs.rootOf(4, 4), Logs.rootOf(8, 5));
        Check.sentence("Terms", "for m above k, B(m - k, others, false), and then ROOT of the first k.");
        dueProof(log, "extend(9, 13): m = k + 1", log.extend(9, 13),
            Logs.leafOf(8), Logs.leafOf(9), Logs.rootOf(10, 2), Logs.leafOf(12), Logs.rootOf(0, 8));
        dueProof(log, "extend(12, 13): m = n - 1", log.extend(12, 13),
            Logs.rootOf(8, 4), Logs.leafOf(12), Logs.rootOf(0, 8));
    }

    // ---- the disk

    private static void entriesOfTheDisk() {
        Check.sentence("Terms", "ENTRIES: 64 places, each with an entry or empty.");
        TileLog log = new TileLog();
        for (int i = 0; i < 64; i++) {
            Check.due("append(0) into place " + i, log.append(0), i);
        }
        Check.due("append(0) where no place is empty", log.append(0), TileLog.NONE);
        Check.due("an entry of 0 is no empty place", log.length(), 64);
        log.publish();
        Check.due("the 64th has a leaf", log.tile(0, 7, 7), Reference.leaf(0));
    }

    private static void tilesOfBandZero() {
        Check.sentence("Terms", "TILES, each with 8 hashes, 0 at first: 8 tiles of band 0,"
            + " tile t having in its place i the leaf's hash of entry 8 * t + i");
        TileLog log = Logs.filled(64);
        dueTiles(log, 0);
        log.publish();
        dueTiles(log, 64);
    }

    private static void tileOfBandOne() {
        Check.sentence("Terms", "one of band 1, having in its place i the ROOT of the entries 8 * i .. 8 * i + 7.");
        for (int n : new int[] {7, 8, 9, 15, 16, 17, 55, 56, 63, 64}) {
            TileLog log = Logs.published(n);
            for (int i = 0; i < 8; i++) {
                Check.due("tile(1, 0, " + i + ") of " + n, log.tile(1, 0, i),
                    8 * i + 7 < n ? Logs.rootOf(8 * i, 8) : 0);
            }
        }
    }

    private static void headsOfTheDisk() {
        Check.sentence("Terms", "HEADS: two places, 0 and 1, each with a NUMBER, a size and a root, or empty.");
        TileLog log = Logs.published(3);
        Check.due("size(0) while it is empty", log.size(0), TileLog.NONE);
        Check.due("size(1)", log.size(1), 3);
        Check.due("root(1)", log.root(1), Logs.rootOf(0, 3));
        Logs.fill(log, 10);
        log.publish();
        Check.due("size(0)", log.size(0), 10);
        Check.due("root(0)", log.root(0), Logs.rootOf(0, 10));
        Check.due("size(1) stays", log.size(1), 3);
        Check.due("root(1) stays", log.root(1), Logs.rootOf(0, 3));
    }

    private static void aWrite() {
        Check.sentence("Terms", "A WRITE changes one entry, one tile as a whole, or one head as a whole.");
        TileLog log = Logs.filled(8);
        Check.due("eight entries", log.writes(), 8);
        log.order(1);
        log.publish();
        Check.due("a tile", log.writes(), 9);
        dueTile(log, 0, 8);
        log.recover();
        Check.due("the tile again", log.writes(), 10);
        dueTile(log, 0, 0);
        log.publish();
        Check.due("two tiles and a head", log.writes(), 13);
        Check.due("the head's number", log.latest(), 1);
        Check.due("the head's size", log.size(1), 8);
        Check.due("the head's root", log.root(1), Logs.rootOf(0, 8));
    }

    private static void theLatest() {
        Check.sentence("Terms", "THE LATEST head is the one with the greater number (none if both are empty).");
        TileLog log = new TileLog();
        Check.due("both are empty", log.latest(), 0);
        Logs.fill(log, 1);
        log.publish();
        Check.due("place 0 is empty", log.latest(), 1);
        Check.due("entry 0 is published", log.find(100), 0);
        Logs.fill(log, 2);
        log.publish();
        Check.due("2 at place 0, 1 at place 1", log.latest(), 2);
        Check.due("entry 1 is published", log.find(101), 1);
        Logs.fill(log, 3);
        log.publish();
        Check.due("2 at place 0, 3 at place 1", log.latest(), 3);
        Check.due("entry 2 is published", log.find(102), 2);
    }

    // ---- when a tile is right

    private static void rightOfBandZero() {
        Check.sentence("Terms", "A tile is RIGHT for a size n when it has the hashes of all its entries"
            + " (or groups of eight entries) that lie below n, and 0 in all other places.");
        for (int n = 1; n <= 64; n++) {
            TileLog log = Logs.filled(n);
            log.publish();
            dueTiles(log, n);
            int tiles = (n + 7) / 8 + (n >= 8 ? 1 : 0);
            Check.due("only tiles that were not right were written for " + n, log.writes(), n + tiles + 1);
        }
    }

    private static void rightOfBandOne() {
        TileLog log = Logs.published(15);
        dueTiles(log, 15);
        int writes = log.writes();
        Logs.fill(log, 16);
        log.publish();
        dueTiles(log, 16);
        Check.due("the last of a group: an entry, two tiles and a head", log.writes(), writes + 4);
        writes = log.writes();
        Logs.fill(log, 17);
        log.publish();
        dueTiles(log, 17);
        Check.due("the first of a group: an entry, one tile and a head", log.writes(), writes + 3);
    }

    /** Hashes may be 0 themselves: then a tile can be right for two sizes, and is not written. */
    private static void rightWithHashesOfZero() {
        TileLog log = new TileLog();
        long unseen = Unhash.entryOf(0);
        log.append(unseen);
        Check.due("publish a leaf of 0", log.publish(), 1);
        Check.due("no tile, but an entry and a head", log.writes(), 2);
        Check.due("size(1)", log.size(1), 1);
        Check.due("root(1)", log.root(1), 0);
        Check.due("find", log.find(unseen), 0);
        Check.due("shows", log.shows(unseen, 0, 1, 0), true);
        log.append(unseen);
        log.order(0);
        Check.due("the crash comes in place of the head", log.publish(), TileLog.CRASHED);
        Check.due("nothing is to be put right", log.recover(), 2);
        Check.due("no tile is written", log.writes(), 3);
        log.append(100);
        log.publish();
        Check.due("the tile is not right any more", log.writes(), 6);
        Check.due("tile(0, 0, 2)", log.tile(0, 0, 2), Logs.leafOf(0));

        TileLog group = Logs.filled(7);
        long rightFour = Unhash.rightOf(0, Logs.rootOf(0, 4));
        long rightTwo = Unhash.rightOf(rightFour, Logs.rootOf(4, 2));
        group.append(Unhash.entryOf(Unhash.rightOf(rightTwo, Logs.leafOf(6))));
        Check.due("the group's root", group.rootOf(8), 0);
        group.publish();
        Check.due("band 1's tile is right as it is", group.writes(), 8 + 2);
        Check.due("root(1)", group.root(1), 0);
        Check.due("size(1)", group.size(1), 8);
    }

    // ---- the log

    private static void lengthAndPublishedSize() {
        Check.sentence("Terms", "THE LOG: its LENGTH is how many entries were appended");
        TileLog log = new TileLog();
        Check.due("at first", log.length(), 0);
        log.append(7);
        log.append(7);
        Check.due("the same entry twice", log.length(), 2);
        Check.sentence("Terms", "the PUBLISHED size is that of the latest head, 0 when there is none.");
        Check.due("find, none is published", log.find(7), TileLog.NONE);
        Check.due("include, none is published", log.include(0, 1), TileLog.NONE);
        Check.due("extend, none is published", log.extend(1, 1), TileLog.NONE);
        log.publish();
        log.append(8);
        log.publish();
        log.append(9);
        log.publish();
        log.append(10);
        Check.due("find of the latest head", log.find(9), 3);
        Check.due("include of the latest head", log.include(3, 4), 2);
        Check.due("find behind it", log.find(10), TileLog.NONE);
        Check.due("include behind it", log.include(0, 5), TileLog.NONE);
        Check.due("extend behind it", log.extend(1, 5), TileLog.NONE);
    }

    private static void toAppend() {
        Check.sentence("Terms", "To append writes the entry into the first empty place.");
        TileLog log = new TileLog();
        for (int i = 0; i < 3; i++) {
            Check.due("append", log.append(50 + i), i);
        }
        log.order(0);
        log.append(99);
        log.recover();
        Check.due("the place of the one that crashed", log.append(53), 3);
        for (int i = 0; i < 4; i++) {
            Check.due("entry " + i, log.entry(i), 50 + i);
        }
        Check.due("behind them", log.entry(4), 0);
        Check.due("writes", log.writes(), 4);
    }

    private static void toPublishTiles() {
        Check.sentence("Terms", "To publish: every tile that is not right for the length is written,"
            + " those of band 0 first, in order, so that it is");
        for (int tiles = 0; tiles <= 9; tiles++) {
            TileLog log = Logs.filled(64);
            log.order(tiles);
            Check.due("publish", log.publish(), TileLog.CRASHED);
            Check.due("writes", log.writes(), 64 + tiles);
            for (int t = 0; t < 8; t++) {
                dueTile(log, t, t < tiles ? 64 : 0);
            }
            Check.due("band 1 behind band 0", log.tile(1, 0, 7), tiles == 9 ? Logs.rootOf(56, 8) : 0);
            Check.due("the head behind both", log.latest(), 0);
        }
        TileLog log = Logs.published(20);
        int writes = log.writes();
        Logs.fill(log, 21);
        log.publish();
        Check.due("tiles that are right are not written", log.writes(), writes + 3);
    }

    private static void toPublishTheHead() {
        Check.sentence("Terms", "then a head with the number of the latest one and 1 more (1 for the first),"
            + " the length, and the ROOT of all entries, is written into place number % 2.");
        TileLog log = Logs.filled(64);
        Check.due("the first", log.publish(), 1);
        Check.due("into place 1", log.size(1), 64);
        Check.due("not into place 0", log.size(0), TileLog.NONE);
        Check.due("the ROOT of all entries", log.root(1), Logs.rootOf(0, 64));
        TileLog crashed = Logs.fallenAtHead(5, 9);
        Check.due("the old head stays as a whole", crashed.latest(), 1);
        Check.due("its size", crashed.size(1), 5);
        Check.due("the other place stays empty", crashed.size(0), TileLog.NONE);
        crashed.recover();
        Check.due("a number that was not written is used again", crashed.publish(), 2);
        Check.due("the length", crashed.size(0), 9);
    }

    private static void numbersAndPlaces() {
        TileLog log = new TileLog();
        for (int number = 1; number <= 64; number++) {
            log.append(99 + number);
            Check.due("publish", log.publish(), number);
            Check.due("size of " + number, log.size(number % 2), number);
            Check.due("root of " + number, log.root(number % 2), Logs.rootOf(0, number));
            Check.due("size of the one before it", log.size((number + 1) % 2),
                number == 1 ? TileLog.NONE : number - 1);
        }
        Check.due("the greatest number there can be", log.latest(), 64);
        Check.due("publish again", log.publish(), 64);
    }

    private static void aCrash() {
        Check.sentence("Terms", "A CRASH may be ordered to come in place of a later write: that write does not"
            + " take place, nor does anything behind it in that call, no crash is ordered any more,"
            + " and the log is DOWN.");
        TileLog log = Logs.filled(20);
        log.order(1);
        Check.due("publish", log.publish(), TileLog.CRASHED);
        dueTile(log, 0, 8);
        dueTile(log, 1, 0);
        dueTile(log, 2, 0);
        Check.due("nor the tile of band 1", log.tile(1, 0, 0), 0);
        Check.due("nor the head", log.latest(), 0);
        Check.due("one write took place", log.writes(), 21);
        Check.due("it is down", log.length(), TileLog.DOWN);
        Check.due("no crash is ordered any more: recover", log.recover(), 20);
        Check.due("publish, with five writes", log.publish(), 1);
        for (int i = 20; i < 45; i++) {
            Check.due("append " + i, log.append(i), i);
        }
    }

    private static void recovery() {
        Check.sentence("Terms", "Recovery: every tile that is not right for the published size is written,"
            + " in the same order, so that it is; the log is up, and its length is the number of entries"
            + " on the disk.");
        for (int tiles = 0; tiles <= 9; tiles++) {
            TileLog log = Logs.fallenAtHead(0, 64);
            log.order(tiles);
            Check.due("recover with a crash behind " + tiles, log.recover(), tiles < 9 ? TileLog.CRASHED : 64);
            for (int t = 0; t < 8; t++) {
                dueTile(log, t, t < tiles ? 0 : 64);
            }
            Check.due("band 1", log.tile(1, 0, 0), tiles == 9 ? 0 : Logs.rootOf(0, 8));
            Check.due("writes", log.writes(), 64 + 9 + tiles);
            Check.due("length", log.length(), tiles < 9 ? TileLog.DOWN : 64);
        }
    }

    private static void recoveryPutsTheSizeBack() {
        int[][] sizes = {{0, 1}, {0, 8}, {1, 2}, {7, 8}, {8, 9}, {15, 17}, {8, 16}, {13, 50}, {56, 64}, {63, 64}};
        for (int[] size : sizes) {
            TileLog log = Logs.fallenAtHead(size[0], size[1]);
            dueTiles(log, size[1]);
            int writes = log.writes();
            Check.due("recover from " + size[1], log.recover(), size[1]);
            dueTiles(log, size[0]);
            Check.due("only tiles that were not right", log.writes(), writes + Logs.tilesToWrite(size[0], size[1]));
            Check.due("up, with all entries", log.length(), size[1]);
            Check.due("publish behind it", log.publish(), size[0] == 0 ? 1 : 2);
            dueTiles(log, size[1]);
        }
    }

    // ---- proofs and offers

    private static void theProof() {
        Check.sentence("Terms", "THE PROOF is a row of hashes, empty at first.");
        TileLog log = Logs.published(64);
        for (int i = 0; i < 8; i++) {
            Check.due("proof(" + i + ")", log.proof(i), 0);
        }
    }

    private static void theOffer() {
        Check.sentence("Terms", "THE OFFER is a row of 8 hashes with a LENGTH, all 0 at first.");
        long r = Reference.leaf(5);
        TileLog log = new TileLog();
        Check.due("the length is 0", log.shows(5, 0, 1, r), true);
        for (int n = 1; n <= 8; n++) {
            r = Reference.node(r, 0);
            log.offers(n);
            Check.due("hash " + (n - 1) + " is 0", log.shows(5, 0, 1 << n, r), true);
        }
    }

    private static void shows() {
        long e = 5;
        long leaf = Reference.leaf(e);
        TileLog log = new TileLog();
        Check.sentence("Terms", "f = m, g = n - 1, r the leaf's hash of e");
        Check.due("the one entry", log.shows(e, 0, 1, leaf), true);
        Check.due("another root", log.shows(e, 0, 1, leaf ^ 1), false);
        Check.sentence("Terms", "if f is odd or f = g, r becomes the node's hash over p and r,"
            + " and then, while f is even and not 0, f and g are both halved");
        offerRow(log, 11);
        Check.due("f is odd and f = g", log.shows(e, 1, 2, Reference.node(11, leaf)), true);
        Check.due("f = g, halved twice in all", log.shows(e, 2, 3, Reference.node(11, leaf)), true);
        Check.due("f = g, halved three times in all", log.shows(e, 4, 5, Reference.node(11, leaf)), true);
        offerRow(log, 11, 12);
        long odd = Reference.node(11, leaf);
        Check.due("f is odd, then 0", log.shows(e, 1, 4, Reference.node(odd, 12)), true);
        Check.due("f is odd twice", log.shows(e, 3, 4, Reference.node(12, odd)), true);
        Check.due("f is even, then 1", log.shows(e, 2, 4, Reference.node(12, Reference.node(leaf, 11))), true);
        Check.due("f = g = 6", log.shows(e, 6, 7, Reference.node(12, odd)), true);
        Check.sentence("Terms", "otherwise r becomes the node's hash over r and p");
        Check.due("f is 0 twice", log.shows(e, 0, 4, Reference.node(Reference.node(leaf, 11), 12)), true);
        Check.due("f is 0 twice, of three", log.shows(e, 0, 3, Reference.node(Reference.node(leaf, 11), 12)), true);
        Check.sentence("Terms", "after either f and g are halved (without what is left).");
        Check.due("f = 1 and g = 2", log.shows(e, 1, 3, Reference.node(odd, 12)), true);
        Check.due("f = 5 and g = 5", log.shows(e, 5, 6, Reference.node(12, odd)), true);
    }

    private static void showsEnds() {
        long leaf = Reference.leaf(5);
        long joined = Reference.node(leaf, 11);
        TileLog log = new TileLog();
        offerRow(log, 11, 12);
        log.offers(1);
        Check.sentence("Terms", "it does not show it if g is 0");
        Check.due("a hash too many, for n = 1", log.shows(5, 0, 1, joined), false);
        Check.due("a hash too many, as f = g", log.shows(5, 0, 1, Reference.node(11, leaf)), false);
        Check.due("a hash too many that is not looked at", log.shows(5, 0, 1, leaf), false);
        log.offers(2);
        Check.due("two of one", log.shows(5, 0, 2, Reference.node(joined, 12)), false);
        Check.due("two of one, as f = g", log.shows(5, 0, 2, Reference.node(12, joined)), false);
        Check.due("two of one, the root without it", log.shows(5, 0, 2, joined), false);
        Check.sentence("Terms", "It shows it when g is 0 in the end and r is the root.");
        log.offers(1);
        Check.due("one of one", log.shows(5, 0, 2, joined), true);
        Check.due("g is not 0", log.shows(5, 0, 3, joined), false);
        Check.due("g is not 0 for an empty offer", log.offers(0) && log.shows(5, 0, 2, leaf), false);
        log.offers(1);
        Check.due("r is not the root", log.shows(5, 0, 2, joined + 1), false);
        Check.due("r is not the root, 0", log.shows(5, 0, 2, 0), false);
        Check.due("another entry", log.shows(6, 0, 2, joined), false);
        Check.due("another place", log.shows(5, 1, 2, joined), false);
    }

    private static void leadsForTheSameSize() {
        TileLog log = new TileLog();
        Check.sentence("Terms", "for m = n when it is empty and both roots are the same.");
        for (int n : new int[] {1, 2, 3, 4, 63, 64, 65, 999999, 1000000}) {
            Check.due("empty, the same roots, " + n, log.leads(n, n, -9, -9), true);
            Check.due("empty, the roots are not the same, " + n, log.leads(n, n, -9, 9), false);
        }
        offerRow(log, 11, 12);
        long walked = Reference.node(12, 11);
        Check.due("not empty, even though the walk would end well", log.leads(3, 3, walked, walked), false);
        log.offers(1);
        Check.due("not empty", log.leads(2, 2, 11, 11), false);
        Check.due("not empty", log.leads(1, 1, 11, 11), false);
        Check.due("not empty", log.leads(3, 3, 11, 11), false);
    }

    private static void leadsWithTheFirstRoot() {
        TileLog log = new TileLog();
        Check.sentence("Terms", "Otherwise let the row be the offer, with the first root put before it"
            + " if m is a power of two; it must not be empty");
        for (int m : new int[] {1, 2, 4, 8, 64, 524288}) {
            offerRow(log, 11);
            Check.due("from " + m, log.leads(m, m + 1, 7, Reference.node(7, 11)), true);
            Check.due("from " + m + ", the roots alone", log.leads(m, m + 1, 7, 7), false);
            log.offers(0);
            Check.due("from " + m + " with an empty offer", log.leads(m, m + 1, 7, 7), false);
        }
        for (int m : new int[] {3, 5, 6, 7, 9, 63, 65, 999999}) {
            Check.due("from " + m + " with an empty row", log.leads(m, m + 1, 0, 0), false);
        }
        offerRow(log, 11, 12);
        Check.due("three is none: its first hash begins", log.leads(3, 4, 11, Reference.node(11, 12)), false);
    }

    private static void leadsOtherwise() {
        TileLog log = new TileLog();
        offerRow(log, 11, 12, 13);
        Check.sentence("Terms", "f = m - 1, g = n - 1; while f is odd, both are halved;"
            + " a and b are the row's first hash");
        Check.due("from 6 to 7: once", log.leads(6, 7, Reference.node(13, 11),
            Reference.node(13, Reference.node(11, 12))), true);
        Check.due("from 4 to 5: twice", log.offers(1) && log.leads(4, 5, 7, Reference.node(7, 11)), true);
        log.offers(3);
        Check.sentence("Terms", "if f is odd or f = g, a becomes the node's hash over p and a,"
            + " b that over p and b, and then, while f is even and not 0, both f and g are halved");
        long right = Reference.node(13, Reference.node(11, 12));
        Check.due("from 3 to 4: f is even, then odd", log.leads(3, 4, Reference.node(13, 11), right), true);
        Check.due("from 5 to 6: f is halved while it is even", log.leads(5, 6, Reference.node(13, 11), right), true);
        Check.due("from 3 to 4, a over b alone", log.leads(3, 4, 11, right), false);
        Check.sentence("Terms", "otherwise b becomes the node's hash over b and p; after either f and g are halved.");
        long leftmost = Reference.node(Reference.node(Reference.node(7, 11), 12), 13);
        Check.due("from 1 to 8: a stays", log.leads(1, 8, 7, leftmost), true);
        Check.due("from 1 to 5: a stays", log.leads(1, 5, 7, leftmost), true);
        Check.due("from 2 to 16: halved before", log.leads(2, 16, 7, leftmost), true);
    }

    private static void leadsEnds() {
        TileLog log = new TileLog();
        offerRow(log, 11, 12, 13);
        log.offers(2);
        long one = Reference.node(7, 11);
        Check.sentence("Terms", "it does not lead there if g is 0");
        Check.due("a hash too many", log.leads(1, 2, 7, Reference.node(one, 12)), false);
        Check.due("a hash too many that is not looked at", log.leads(1, 2, 7, one), false);
        long keepsSeven = Unhash.leftOf(7, 7);
        log.offer(1, keepsSeven);
        Check.due("a hash too many, as f = g", log.leads(1, 2, 7, Reference.node(keepsSeven, one)), false);
        offerRow(log, 11, 12, 13, 14);
        long tooLeft = Reference.node(14, Reference.node(13, 11));
        long tooRight = Reference.node(14, Reference.node(13, Reference.node(11, 12)));
        Check.due("a hash too many, from 3 to 4", log.leads(3, 4, tooLeft, tooRight), false);
        Check.sentence("Terms", "It leads there when g is 0 in the end, a is the first root and b the second one.");
        log.offers(1);
        Check.due("all three", log.leads(1, 2, 7, one), true);
        Check.due("g is not 0", log.leads(1, 3, 7, one), false);
        Check.due("b is not the second one", log.leads(1, 2, 7, one ^ 1), false);
        log.offers(3);
        long a = Reference.node(13, 11);
        long b = Reference.node(13, Reference.node(11, 12));
        Check.due("a and b", log.leads(3, 4, a, b), true);
        Check.due("a is not the first root", log.leads(3, 4, a ^ 1, b), false);
        Check.due("the roots the wrong way round", log.leads(3, 4, b, a), false);
        Check.due("g is not 0 with a and b", log.leads(3, 5, a, b), false);
    }

    private static void sameHashes() {
        Check.sentence("Terms", "(Nothing here says that two different rows have different hashes.)");
        TileLog log = Logs.published(2);
        long root = log.root(1);
        offerRow(log, Unhash.rightOf(root, Reference.leaf(5)));
        Check.due("an entry that is not there is shown", log.shows(5, 0, 2, root), true);
        TileLog other = new TileLog();
        other.append(5);
        other.append(Unhash.entryOf(Unhash.rightOf(root, Reference.leaf(5))));
        other.publish();
        Check.due("two rows with one root", other.root(1), root);
        List<Long> row = List.of(5L, other.entry(1));
        Check.due("as the terms have it", Reference.rootOfRow(row), root);
        log.offers(0);
        Check.due("the one leads to the other", log.leads(2, 2, root, other.root(1)), true);
        offerRow(log, Unhash.rightOf(7, 7));
        Check.due("a log may have the root of what it goes on from", log.leads(1, 2, 7, 7), true);
    }

    private TermsTest() { }
}
