/** For each promise: ordinary inputs, the edges that the document names, and wrong inputs. */
final class PromisesTest {
    private static final int LOW = Integer.MIN_VALUE;
    private static final int HIGH = Integer.MAX_VALUE;
    private static final long LEAF_OF_5 = 9023930871484788952L;

    public static void main(String[] args) {
        newObject();
        append();
        appendRefused();
        publish();
        publishRefused();
        headsTakeTurns();
        order();
        orderRefused();
        orderWhileDown();
        recover();
        writes();
        length();
        sizeAndRoot();
        latest();
        tile();
        tileAbsent();
        entry();
        find();
        rootOf();
        include();
        extend();
        proof();
        offer();
        offers();
        shows();
        leads();
        answersWhileDown();
        Check.end();
    }

    /** A log with the entries 100, 101 and so on. */
    private static TileLog filled(int n) {
        TileLog log = new TileLog();
        for (int i = 0; i < n; i++) {
            Check.due("append to fill", log.append(100 + i), i);
        }
        return log;
    }

    private static TileLog published(int n) {
        TileLog log = filled(n);
        Check.due("publish what was filled", log.publish(), 1);
        return log;
    }

    /** A log that is down with n entries published, for which nothing has to be put right. */
    private static TileLog fallen(int n) {
        TileLog log = published(n);
        log.order(0);
        Check.due("append that crashes", log.append(1), TileLog.CRASHED);
        return log;
    }

    private static long leafOf(int place) {
        return Reference.leaf(100 + place);
    }

    private static void newObject() {
        TileLog log = new TileLog();
        Check.due("1: length", log.length(), 0);
        Check.due("1: writes", log.writes(), 0);
        Check.due("1: latest", log.latest(), 0);
        for (int place = 0; place < 2; place++) {
            Check.due("1: size", log.size(place), TileLog.NONE);
            Check.due("1: root", log.root(place), 0);
        }
        for (int i = 0; i < 64; i++) {
            Check.due("1: entry", log.entry(i), 0);
            Check.due("1: tile of band 0", log.tile(0, i / 8, i % 8), 0);
        }
        for (int i = 0; i < 8; i++) {
            Check.due("1: tile of band 1", log.tile(1, 0, i), 0);
            Check.due("1: proof", log.proof(i), 0);
        }
        Check.due("1: it is up", log.recover(), TileLog.NONE);
        Check.due("1: the offer is empty", log.leads(3, 3, 4, 4), true);
        for (int i = 0; i < 30; i++) {
            Check.due("1: no crash is ordered", log.append(i), i);
        }
        TileLog other = new TileLog();
        Check.due("1: objects share nothing", other.length(), 0);
        other.offers(1);
        Check.due("1: the offer's hashes are 0", other.shows(5, 0, 2, Reference.node(Reference.leaf(5), 0)), true);
    }

    private static void append() {
        TileLog log = new TileLog();
        long[] row = {0, Long.MIN_VALUE, Long.MAX_VALUE, -1, 0, 7};
        for (int i = 0; i < row.length; i++) {
            Check.due("2: append", log.append(row[i]), i);
            Check.due("2: the entry is there", log.entry(i), row[i]);
            Check.due("2: the length", log.length(), i + 1);
        }
        Check.due("2: one write each", log.writes(), row.length);
        Check.due("2: nothing is published", log.latest(), 0);
        Check.due("2: no tile is written", log.tile(0, 0, 0), 0);
    }

    private static void appendRefused() {
        TileLog log = filled(64);
        log.order(0);
        Check.due("2: there are 64", log.append(5), TileLog.NONE);
        Check.due("2: refused, no write", log.writes(), 64);
        Check.due("2: refused, the length stays", log.length(), 64);
        Check.due("2: refused, the last entry stays", log.entry(63), 163);
        Check.due("2: refused, the crash is still to come", log.publish(), TileLog.CRASHED);
        Check.due("2: DOWN also when there are 64", log.append(5), TileLog.DOWN);

        TileLog crashing = filled(3);
        crashing.order(0);
        Check.due("2: crashed", crashing.append(9), TileLog.CRASHED);
        Check.due("2: crashed, not there", crashing.entry(3), 0);
        Check.due("2: crashed, no write", crashing.writes(), 3);
        Check.due("2: down", crashing.append(9), TileLog.DOWN);
        Check.due("2: down, not there", crashing.entry(3), 0);
        Check.due("2: down, no write", crashing.writes(), 3);
        crashing.recover();
        Check.due("2: up again", crashing.append(8), 3);
        Check.due("2: up again, it is there", crashing.entry(3), 8);
    }

    private static void publish() {
        TileLog log = new TileLog();
        Check.due("3: nothing to publish", log.publish(), 0);
        Check.due("3: nothing was written", log.writes(), 0);
        log.append(5);
        Check.due("3: the first", log.publish(), 1);
        Check.due("3: its size", log.size(1), 1);
        Check.due("3: its root", log.root(1), LEAF_OF_5);
        Check.due("3: entry, tile and head", log.writes(), 3);
        Check.due("3: published already", log.publish(), 1);
        Check.due("3: published already, no write", log.writes(), 3);
        for (int i = 1; i < 20; i++) {
            log.append(5);
        }
        Check.due("3: the second", log.publish(), 2);
        Check.due("3: three tiles of band 0, one of band 1, a head", log.writes(), 3 + 19 + 5);
        Check.due("3: full tile", log.tile(0, 1, 7), LEAF_OF_5);
        Check.due("3: part of a tile", log.tile(0, 2, 3), LEAF_OF_5);
        Check.due("3: rest of that tile", log.tile(0, 2, 4), 0);
        Check.due("3: a group's root", log.tile(1, 0, 1), log.rootOf(8));
        Check.due("3: a group in part", log.tile(1, 0, 2), 0);
        log.append(5);
        log.publish();
        Check.due("3: only the tile that changed, and a head", log.writes(), 27 + 3);
    }

    private static void publishRefused() {
        TileLog log = filled(64);
        for (int n = 0; n <= 9; n++) {
            log.order(n);
            Check.due("3: crash in place of write " + n, log.publish(), TileLog.CRASHED);
            Check.due("3: the writes before it took place", log.tile(0, 7, 7) == 0, n < 8);
            Check.due("3: band 1 comes behind band 0", log.tile(1, 0, 0) == 0, n < 9);
            Check.due("3: no head", log.latest(), 0);
            Check.due("3: down", log.publish(), TileLog.DOWN);
            Check.due("3: recovered", log.recover(), 64);
        }
        log.order(10);
        Check.due("3: the crash comes behind it", log.publish(), 1);
        Check.due("3: nothing more to write", log.publish(), 1);
        log.order(0);
        Check.due("3: where there is no write there is no crash", log.publish(), 1);
        Check.due("3: and it is up", log.length(), 64);
    }

    private static void headsTakeTurns() {
        TileLog log = new TileLog();
        for (int number = 1; number <= 7; number++) {
            log.append(number);
            long other = log.root((number + 1) % 2);
            Check.due("3: number", log.publish(), number);
            Check.due("3: size in place number % 2", log.size(number % 2), number);
            Check.due("3: root in place number % 2", log.root(number % 2), log.rootOf(number));
            Check.due("3: the other head stays", log.root((number + 1) % 2), other);
        }
    }

    private static void order() {
        for (int n = 0; n <= 20; n++) {
            TileLog log = new TileLog();
            Check.due("4: order", log.order(n), true);
            for (int i = 0; i < n; i++) {
                Check.due("4: before the crash", log.append(i), i);
            }
            Check.due("4: the crash", log.append(n), TileLog.CRASHED);
            Check.due("4: the writes", log.writes(), n);
            Check.due("4: recovered", log.recover(), n);
            for (int i = n; i < n + 25; i++) {
                Check.due("4: it came once", log.append(i), i);
            }
        }
        TileLog log = new TileLog();
        log.order(0);
        Check.due("4: instead of one that was ordered", log.order(2), true);
        Check.due("4: first", log.append(1), 0);
        Check.due("4: second", log.append(1), 1);
        Check.due("4: third", log.append(1), TileLog.CRASHED);
        TileLog hastier = new TileLog();
        hastier.order(5);
        hastier.order(0);
        Check.due("4: an earlier one instead", hastier.append(1), TileLog.CRASHED);
    }

    private static void orderRefused() {
        for (int n : new int[] {-1, 21, LOW, HIGH}) {
            TileLog log = new TileLog();
            Check.due("4: refused", log.order(n), false);
            for (int i = 0; i < 25; i++) {
                Check.due("4: no crash from it", log.append(i), i);
            }
            log.order(1);
            Check.due("4: refused again", log.order(n), false);
            Check.due("4: the other order stays", log.append(25), 25);
            Check.due("4: and comes", log.append(26), TileLog.CRASHED);
        }
    }

    private static void orderWhileDown() {
        TileLog log = filled(17);
        log.order(2);
        Check.due("4: crash in publish", log.publish(), TileLog.CRASHED);
        Check.due("4: ordered while down", log.order(1), true);
        Check.due("4: crash in recovery", log.recover(), TileLog.CRASHED);
        Check.due("4: order refused while down", log.order(21), false);
        Check.due("4: recovery", log.recover(), 17);

        TileLog other = fallen(3);
        other.order(0);
        Check.due("4: recovery without a write does not crash", other.recover(), 3);
        Check.due("4: the crash is still to come", other.append(1), TileLog.CRASHED);
    }

    private static void recover() {
        TileLog log = published(10);
        Check.due("5: it is not down", log.recover(), TileLog.NONE);
        for (int i = 10; i < 20; i++) {
            log.append(100 + i);
        }
        log.order(3);
        Check.due("5: crash in place of the head", log.publish(), TileLog.CRASHED);
        Check.due("5: a tile goes beyond the head", log.tile(0, 2, 0), leafOf(16));
        int writes = log.writes();
        Check.due("5: entries behind the published size stay", log.recover(), 20);
        Check.due("5: the three tiles that were written are put right", log.writes(), writes + 3);
        Check.due("5: the published part of a tile stays", log.tile(0, 1, 1), leafOf(9));
        Check.due("5: what is behind it goes", log.tile(0, 1, 2), 0);
        Check.due("5: a whole tile behind it goes", log.tile(0, 2, 0), 0);
        Check.due("5: the group's root stays", log.tile(1, 0, 0), log.rootOf(8));
        Check.due("5: the group behind it has none", log.tile(1, 0, 1), 0);
        Check.due("5: the head stays", log.latest(), 1);
        Check.due("5: entry", log.entry(19), 119);
        Check.due("5: up", log.length(), 20);
        Check.due("5: it is not down any more", log.recover(), TileLog.NONE);
        Check.due("5: publish after it", log.publish(), 2);
        Check.due("5: all is published", log.size(0), 20);
        Check.due("5: a tile after it", log.tile(0, 2, 3), leafOf(19));
        Check.due("5: the root after it", log.root(0), log.rootOf(20));

        log.append(1);
        log.order(1);
        Check.due("5: crash again", log.publish(), TileLog.CRASHED);
        log.order(0);
        Check.due("5: crash in recovery", log.recover(), TileLog.CRASHED);
        Check.due("5: the tile is as it was", log.tile(0, 2, 4), Reference.leaf(1));
        Check.due("5: it is down still", log.length(), TileLog.DOWN);
        Check.due("5: recovery at last", log.recover(), 21);
        Check.due("5: the tile is right", log.tile(0, 2, 4), 0);
    }

    private static void writes() {
        TileLog log = filled(9);
        Check.due("6: appends", log.writes(), 9);
        log.publish();
        Check.due("6: three tiles and a head", log.writes(), 13);
        log.order(0);
        log.append(1);
        Check.due("6: a crash is none", log.writes(), 13);
        Check.due("6: also while down", log.writes(), 13);
        log.recover();
        Check.due("6: nothing to put right", log.writes(), 13);
        log.append(1);
        log.order(1);
        log.publish();
        Check.due("6: an entry, and a tile before the crash", log.writes(), 15);
        log.recover();
        Check.due("6: that tile put right", log.writes(), 16);
        log.offer(0, 1);
        log.include(0, 9);
        log.find(1);
        log.append(4);
        Check.due("6: only writes to the disk count", log.writes(), 17);
    }

    private static void length() {
        TileLog log = filled(5);
        Check.due("7: before publishing", log.length(), 5);
        log.publish();
        Check.due("7: after it", log.length(), 5);
        log.order(0);
        log.append(1);
        Check.due("7: down", log.length(), TileLog.DOWN);
        log.recover();
        Check.due("7: up again", log.length(), 5);
        Check.due("7: full", filled(64).length(), 64);
    }

    private static void sizeAndRoot() {
        TileLog log = published(3);
        Check.due("8: the first head is at place 1", log.size(1), 3);
        Check.due("8: none at place 0", log.size(0), TileLog.NONE);
        Check.due("9: none at place 0", log.root(0), 0);
        long three = Reference.node(Reference.node(leafOf(0), leafOf(1)), leafOf(2));
        Check.due("9: root of three", log.root(1), three);
        log.append(103);
        Check.due("8: an append changes no head", log.size(1), 3);
        log.publish();
        Check.due("8: the second head", log.size(0), 4);
        Check.due("8: the first stays", log.size(1), 3);
        long four = Reference.node(Reference.node(leafOf(0), leafOf(1)), Reference.node(leafOf(2), leafOf(3)));
        Check.due("9: root of four", log.root(0), four);
        Check.due("9: the first stays", log.root(1), three);
        for (int place : new int[] {-1, 2, LOW, HIGH}) {
            Check.due("8: no such place", log.size(place), TileLog.NONE);
            Check.due("9: no such place", log.root(place), 0);
        }
        log.order(0);
        log.append(1);
        Check.due("8: while down", log.size(0), 4);
        Check.due("9: while down", log.root(0), four);
    }

    private static void latest() {
        TileLog log = new TileLog();
        Check.due("10: none", log.latest(), 0);
        for (int number = 1; number <= 5; number++) {
            log.append(number);
            Check.due("10: not yet", log.latest(), number - 1);
            log.publish();
            Check.due("10: the greater number", log.latest(), number);
        }
        log.append(6);
        log.order(1);
        log.publish();
        Check.due("10: no head was written, while down", log.latest(), 5);
    }

    private static void tile() {
        TileLog log = published(64);
        for (int place = 0; place < 64; place++) {
            Check.due("11: band 0", log.tile(0, place / 8, place % 8), leafOf(place));
        }
        Reference model = new Reference();
        for (int i = 0; i < 64; i++) {
            model.append(100 + i);
        }
        for (int i = 0; i < 8; i++) {
            long due = Reference.rootOfRow(model.entries.subList(8 * i, 8 * i + 8));
            Check.due("11: band 1", log.tile(1, 0, i), due);
        }
        TileLog seven = published(7);
        Check.due("11: seven entries are no group", seven.tile(1, 0, 0), 0);
        seven.append(107);
        Check.due("11: not before it is published", seven.tile(0, 0, 7), 0);
        seven.publish();
        Check.due("11: eight are one", seven.tile(1, 0, 0), seven.rootOf(8));
        Check.due("11: the tile is written as a whole", seven.tile(0, 0, 7), leafOf(7));
        Check.due("11: the same while down", fallen(8).tile(0, 0, 7), leafOf(7));
    }

    private static void tileAbsent() {
        TileLog log = published(64);
        int[] beyond = {-1, 8, LOW, HIGH};
        for (int x : beyond) {
            Check.due("11: no such tile", log.tile(0, x, 0), 0);
            Check.due("11: no such place", log.tile(0, 0, x), 0);
            Check.due("11: no such tile of band 1", log.tile(1, x, 0), 0);
            Check.due("11: no such place of band 1", log.tile(1, 0, x), 0);
        }
        for (int t = 1; t < 8; t++) {
            Check.due("11: band 1 has one tile", log.tile(1, t, 0), 0);
        }
        for (int band : new int[] {-1, 2, LOW, HIGH}) {
            Check.due("11: no such band", log.tile(band, 0, 0), 0);
        }
    }

    private static void entry() {
        TileLog log = filled(64);
        for (int i = 0; i < 64; i++) {
            Check.due("12: entry", log.entry(i), 100 + i);
        }
        for (int i : new int[] {-1, 64, LOW, HIGH}) {
            Check.due("12: no such place", log.entry(i), 0);
        }
        TileLog two = filled(2);
        Check.due("12: empty place", two.entry(2), 0);
        Check.due("12: empty place at the end", two.entry(63), 0);
        Check.due("12: while down", fallen(2).entry(1), 101);
    }

    private static void find() {
        TileLog log = new TileLog();
        Check.due("13: in an empty log", log.find(0), TileLog.NONE);
        for (int i = 0; i < 20; i++) {
            log.append(i % 7 - 3);
        }
        Check.due("13: nothing is published", log.find(-3), TileLog.NONE);
        log.publish();
        for (int i = 0; i < 7; i++) {
            Check.due("13: the least place", log.find(i - 3), i);
        }
        Check.due("13: none", log.find(4), TileLog.NONE);
        Check.due("13: none", log.find(Long.MIN_VALUE), TileLog.NONE);
        log.append(44);
        Check.due("13: not below the published size", log.find(44), TileLog.NONE);
        log.publish();
        Check.due("13: at the last published place", log.find(44), 20);
        Check.due("13: in a full log", published(64).find(163), 63);
        Check.due("13: 0 is not found in empty places", published(3).find(0), TileLog.NONE);
        Check.due("13: DOWN", fallen(3).find(100), TileLog.DOWN);
        Check.due("13: DOWN where there is none", fallen(3).find(5), TileLog.DOWN);
    }

    private static void rootOf() {
        TileLog log = filled(64);
        Reference model = new Reference();
        Check.due("14: of no entries", log.rootOf(0), 0);
        for (int n = 1; n <= 64; n++) {
            model.append(99 + n);
            Check.due("14: of the first " + n, log.rootOf(n), Reference.rootOfRow(model.entries));
        }
        for (int n : new int[] {-1, 65, LOW, HIGH}) {
            Check.due("14: refused", log.rootOf(n), 0);
        }
        TileLog three = filled(3);
        Check.due("14: more than there are", three.rootOf(4), 0);
        Check.due("14: all, though not published", three.rootOf(3) != 0, true);
        TileLog down = fallen(3);
        Check.due("14: while down", down.rootOf(3), three.rootOf(3));
        Check.due("14: more than there are, while down", down.rootOf(4), 0);
        TileLog five = new TileLog();
        five.append(5);
        Check.due("14: of one entry", five.rootOf(1), LEAF_OF_5);
    }

    private static void include() {
        TileLog log = published(11);
        Check.due("15: alone", log.include(0, 1), 0);
        Check.due("15: place 3 of 11", log.include(3, 11), 4);
        Check.due("15: its neighbour", log.proof(0), leafOf(2));
        Check.due("15: its neighbours", log.proof(1), Reference.node(leafOf(0), leafOf(1)));
        Check.due("15: the last place", log.include(10, 11), 2);
        Check.due("15: the pair before it", log.proof(0), Reference.node(leafOf(8), leafOf(9)));
        Check.due("15: the first eight", log.proof(1), log.rootOf(8));
        Check.due("15: less than is published", log.include(2, 3), 1);
        Check.due("15: of three", log.proof(0), log.rootOf(2));
        log.append(1);
        int[][] refused = {{0, 0}, {-1, 11}, {11, 11}, {0, 12}, {11, 12}, {0, -1}, {-1, 0}, {LOW, 5}, {HIGH, 5},
            {0, LOW}, {0, HIGH}, {-1, LOW}, {HIGH, HIGH}, {3, 2}};
        for (int[] pair : refused) {
            Check.due("15: refused", log.include(pair[0], pair[1]), TileLog.NONE);
            Check.due("15: refused, the proof stays", log.proof(0), log.rootOf(2));
        }
        Check.due("15: an empty proof takes its place", log.include(0, 1), 0);
        Check.due("15: it is empty", log.proof(0), 0);
        Check.due("15: nothing is published", filled(3).include(0, 1), TileLog.NONE);
        Check.due("15: DOWN", fallen(3).include(0, 1), TileLog.DOWN);
        Check.due("15: DOWN for wrong places", fallen(3).include(5, 3), TileLog.DOWN);
    }

    private static void extend() {
        TileLog log = published(11);
        Check.due("16: the same size", log.extend(11, 11), 0);
        Check.due("16: from 1 to 1", log.extend(1, 1), 0);
        Check.due("16: from 8 to 11", log.extend(8, 11), 1);
        long lastThree = Reference.node(Reference.node(leafOf(8), leafOf(9)), leafOf(10));
        Check.due("16: the last three", log.proof(0), lastThree);
        Check.due("16: from 1 to 11", log.extend(1, 11), 4);
        Check.due("16: the second entry", log.proof(0), leafOf(1));
        Check.due("16: from 5 to 11", log.extend(5, 11), 5);
        Check.due("16: the fifth entry", log.proof(0), leafOf(4));
        Check.due("16: the sixth entry", log.proof(1), leafOf(5));
        Check.due("16: the first four", log.proof(3), log.rootOf(4));
        Check.due("16: less than is published", log.extend(2, 3), 1);
        Check.due("16: the third entry", log.proof(0), leafOf(2));
        log.append(1);
        int[][] refused = {{0, 0}, {0, 11}, {12, 11}, {1, 12}, {12, 12}, {1, 0}, {-1, -1}, {LOW, 5}, {HIGH, 5},
            {1, LOW}, {1, HIGH}, {LOW, LOW}, {HIGH, HIGH}, {6, 5}};
        for (int[] pair : refused) {
            Check.due("16: refused", log.extend(pair[0], pair[1]), TileLog.NONE);
            Check.due("16: refused, the proof stays", log.proof(0), leafOf(2));
        }
        Check.due("16: an empty proof takes its place", log.extend(3, 3), 0);
        Check.due("16: it is empty", log.proof(0), 0);
        Check.due("16: nothing is published", filled(3).extend(1, 1), TileLog.NONE);
        Check.due("16: DOWN", fallen(3).extend(1, 2), TileLog.DOWN);
        Check.due("16: DOWN for wrong sizes", fallen(3).extend(5, 3), TileLog.DOWN);
    }

    private static void proof() {
        TileLog log = published(64);
        Check.due("17: empty at first", log.proof(0), 0);
        Check.due("17: the longest one", log.extend(33, 64), 7);
        for (int i = 0; i < 7; i++) {
            Check.due("17: hash " + i, log.proof(i) != 0, true);
        }
        Check.due("17: the last hash", log.proof(6), log.rootOf(32));
        for (int i : new int[] {-1, 7, 8, LOW, HIGH}) {
            Check.due("17: none", log.proof(i), 0);
        }
        log.include(2, 3);
        Check.due("17: a shorter one", log.proof(0), log.rootOf(2));
        Check.due("17: nothing is left of the longer one", log.proof(1), 0);
        TileLog down = published(3);
        down.include(2, 3);
        down.order(0);
        down.append(1);
        Check.due("17: while down", down.proof(0), down.rootOf(2));
        down.recover();
        Check.due("17: after recovery", down.proof(0), down.rootOf(2));
    }

    private static void offer() {
        TileLog log = new TileLog();
        long leaf = Reference.leaf(5);
        for (int i = 0; i < 8; i++) {
            Check.due("18: offer", log.offer(i, 40 + i), true);
        }
        log.offers(1);
        Check.due("18: its first hash", log.shows(5, 0, 2, Reference.node(leaf, 40)), true);
        for (int i : new int[] {-1, 8, LOW, HIGH}) {
            Check.due("18: refused", log.offer(i, 3), false);
        }
        Check.due("18: refused, the length stays", log.shows(5, 0, 2, Reference.node(leaf, 40)), true);
        log.offers(8);
        long root = leaf;
        for (int i = 0; i < 8; i++) {
            root = Reference.node(root, 40 + i);
        }
        Check.due("18: all eight", log.shows(5, 0, 256, root), true);
        Check.due("18: changed", log.offer(7, 4), true);
        Check.due("18: the changed one counts", log.shows(5, 0, 256, root), false);
        Check.due("18: changed back", log.offer(7, 47), true);
        Check.due("18: as before", log.shows(5, 0, 256, root), true);
    }

    private static void offers() {
        TileLog log = new TileLog();
        long leaf = Reference.leaf(5);
        log.offer(0, 40);
        log.offer(1, 41);
        long two = Reference.node(leaf, 40);
        long four = Reference.node(two, 41);
        Check.due("19: 0 at first", log.shows(5, 0, 1, leaf), true);
        Check.due("19: one", log.offers(1), true);
        Check.due("19: one counts", log.shows(5, 0, 2, two), true);
        Check.due("19: two", log.offers(2), true);
        Check.due("19: two count", log.shows(5, 0, 4, four), true);
        Check.due("19: back to none", log.offers(0), true);
        Check.due("19: none counts", log.shows(5, 0, 1, leaf), true);
        Check.due("19: eight", log.offers(8), true);
        for (int n : new int[] {-1, 9, LOW, HIGH}) {
            log.offers(2);
            Check.due("19: refused", log.offers(n), false);
            Check.due("19: refused, the length and the hashes stay", log.shows(5, 0, 4, four), true);
        }
    }

    private static void shows() {
        TileLog log = new TileLog();
        long leaf = Reference.leaf(5);
        Check.due("20: alone", log.shows(5, 0, 1, leaf), true);
        Check.due("20: another entry", log.shows(6, 0, 1, leaf), false);
        Check.due("20: another root", log.shows(5, 0, 1, leaf + 1), false);
        Check.due("20: too short", log.shows(5, 0, 2, leaf), false);
        log.offer(0, 9);
        log.offer(1, 8);
        log.offers(1);
        Check.due("20: too long", log.shows(5, 0, 1, leaf), false);
        Check.due("20: too long", log.shows(5, 0, 1, Reference.node(leaf, 9)), false);
        Check.due("20: left of two", log.shows(5, 0, 2, Reference.node(leaf, 9)), true);
        Check.due("20: right of two", log.shows(5, 1, 2, Reference.node(9, leaf)), true);
        Check.due("20: the wrong way round", log.shows(5, 1, 2, Reference.node(leaf, 9)), false);
        Check.due("20: the last of three", log.shows(5, 2, 3, Reference.node(9, leaf)), true);
        Check.due("20: the last of 524289", log.shows(5, 524288, 524289, Reference.node(9, leaf)), true);
        log.offers(2);
        Check.due("20: the second of three", log.shows(5, 1, 3, Reference.node(Reference.node(9, leaf), 8)), true);
        int[][] refused = {{0, 0}, {-1, 2}, {2, 2}, {0, -1}, {LOW, LOW}, {HIGH, HIGH}, {0, LOW}, {0, HIGH},
            {LOW, 2}, {HIGH, 2}, {-1, 0}, {1000000, 1000000}, {1000000, 1000001}};
        for (int[] pair : refused) {
            for (int n = 0; n <= 2; n++) {
                log.offers(n);
                long[] roots = {leaf, Reference.node(9, leaf), Reference.node(leaf, 9), 0};
                for (long root : roots) {
                    Check.due("20: refused", log.shows(5, pair[0], pair[1], root), false);
                }
            }
        }
    }

    private static void leads() {
        TileLog log = new TileLog();
        Check.due("21: the same", log.leads(4, 4, 6, 6), true);
        Check.due("21: the same, not a power of two", log.leads(5, 5, 6, 6), true);
        Check.due("21: the same size, other roots", log.leads(4, 4, 6, 7), false);
        Check.due("21: an empty row", log.leads(3, 5, 1, 1), false);
        Check.due("21: too short", log.leads(2, 3, 6, 6), false);
        Check.due("21: 1000000 entries", log.leads(1000000, 1000000, 6, 6), true);
        Check.due("21: more than 1000000 entries", log.leads(1000001, 1000001, 6, 6), false);
        log.offer(0, 9);
        log.offer(1, 8);
        log.offer(2, 7);
        log.offers(1);
        Check.due("21: the same, but an offer", log.leads(4, 4, 6, 6), false);
        Check.due("21: from one to two", log.leads(1, 2, 6, Reference.node(6, 9)), true);
        Check.due("21: from two to three", log.leads(2, 3, 6, Reference.node(6, 9)), true);
        Check.due("21: another second root", log.leads(2, 3, 6, Reference.node(9, 6)), false);
        Check.due("21: another first root", log.leads(2, 3, 5, Reference.node(6, 9)), false);
        Check.due("21: from 524288", log.leads(524288, 1000000, 6, Reference.node(6, 9)), true);
        log.offers(2);
        Check.due("21: too long", log.leads(1, 2, 6, Reference.node(6, 9)), false);
        log.offers(3);
        long second = Reference.node(7, Reference.node(9, 8));
        Check.due("21: from three to four", log.leads(3, 4, Reference.node(7, 9), second), true);
        Check.due("21: only the second root", log.leads(3, 4, Reference.node(9, 7), second), false);
        Check.due("21: only the first root", log.leads(3, 4, Reference.node(7, 9), second + 1), false);
        int[][] refused = {{0, 0}, {0, 2}, {-1, 2}, {3, 2}, {-1, -1}, {LOW, LOW}, {HIGH, HIGH}, {1, LOW},
            {1, HIGH}, {LOW, 2}, {HIGH, 2}, {1000001, 1000000}, {524288, 1000001}};
        for (int[] pair : refused) {
            for (int n = 0; n <= 2; n++) {
                log.offers(n);
                Check.due("21: refused", log.leads(pair[0], pair[1], 6, 6), false);
                Check.due("21: refused", log.leads(pair[0], pair[1], 6, Reference.node(6, 9)), false);
            }
        }
    }

    /** The calls that do not name DOWN go on as ever. */
    private static void answersWhileDown() {
        TileLog log = fallen(3);
        Check.due("18: while down", log.offer(0, 9), true);
        Check.due("19: while down", log.offers(1), true);
        Check.due("20: while down", log.shows(5, 0, 2, Reference.node(Reference.leaf(5), 9)), true);
        Check.due("21: while down", log.leads(1, 2, 6, Reference.node(6, 9)), true);
        Check.due("6: while down", log.writes(), 5);
        Check.due("5: after all that", log.recover(), 3);
    }

    private PromisesTest() { }
}
