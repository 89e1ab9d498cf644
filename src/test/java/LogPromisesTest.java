/** The sentences of promises 1 to 14, each with a test of its own. */
final class LogPromisesTest {
    private static final int LOW = Logs.LOW;
    private static final int HIGH = Logs.HIGH;

    public static void main(String[] args) {
        anEmptyDisk();
        itIsUpAndNoCrashIsOrdered();
        appendsAnyLong();
        appendAnswersThePlace();
        appendWhenThereAre64();
        appendWhileDown();
        appendCrashed();
        publishesIfThereIsMore();
        publishWithNothingMore();
        publishWhileDown();
        publishCrashed();
        orderCounts();
        orderGoesOn();
        orderInsteadOfAnother();
        orderWhileDown();
        orderRefused();
        recoversIfDown();
        recoverAnswersTheLength();
        recoverWhenNotDown();
        recoverCrashed();
        writes();
        length();
        size();
        root();
        latest();
        tileOnTheDisk();
        tileWhenThereIsNone();
        entryOnTheDisk();
        entryWhenThereIsNone();
        findTheLeast();
        findBelowThePublishedSize();
        findNoneAndDown();
        rootOfTheFirst();
        rootOfRefused();
        Check.end();
    }

    // ---- promise 1

    private static void anEmptyDisk() {
        Check.sentence("1", "An empty disk");
        TileLog log = new TileLog();
        Check.due("length()", log.length(), 0);
        Check.due("writes()", log.writes(), 0);
        Check.due("latest()", log.latest(), 0);
        for (int place = 0; place < 2; place++) {
            Check.due("size(" + place + ")", log.size(place), TileLog.NONE);
            Check.due("root(" + place + ")", log.root(place), 0);
        }
        for (int i = 0; i < 64; i++) {
            Check.due("entry(" + i + ")", log.entry(i), 0);
            Check.due("tile of band 0", log.tile(0, i / 8, i % 8), 0);
        }
        for (int i = 0; i < 8; i++) {
            Check.due("tile of band 1", log.tile(1, 0, i), 0);
        }
        Check.due("rootOf(1)", log.rootOf(1), 0);
        Check.due("find(0)", log.find(0), TileLog.NONE);
        log.append(5);
        log.publish();
        Check.due("another object has its own disk", new TileLog().latest(), 0);
    }

    private static void itIsUpAndNoCrashIsOrdered() {
        Check.sentence("1", "the log is up, no crash is ordered.");
        TileLog log = new TileLog();
        Check.due("length()", log.length(), 0);
        Check.due("recover()", log.recover(), TileLog.NONE);
        for (int i = 0; i < 64; i++) {
            Check.due("append", log.append(i), i);
        }
        Check.due("publish", log.publish(), 1);
    }

    // ---- promise 2

    private static void appendsAnyLong() {
        Check.sentence("2", "Appends (any long, 0 too).");
        TileLog log = new TileLog();
        long[] row = {0, Long.MIN_VALUE, Long.MAX_VALUE, -1, -2, -3, 1, 1L << 32, 0, 0};
        for (int i = 0; i < row.length; i++) {
            Check.due("append(" + row[i] + ")", log.append(row[i]), i);
            Check.due("length()", log.length(), i + 1);
        }
        for (int i = 0; i < row.length; i++) {
            Check.due("entry(" + i + ")", log.entry(i), row[i]);
        }
        Check.due("one write each", log.writes(), row.length);
        Check.due("no tile is written", log.tile(0, 0, 0), 0);
        Check.due("no head is written", log.latest(), 0);
    }

    private static void appendAnswersThePlace() {
        Check.sentence("2", "Answers the entry's place");
        TileLog log = new TileLog();
        for (int i = 0; i < 64; i++) {
            Check.due("append", log.append(7), i);
            if (i % 3 == 0) {
                log.publish();
            }
        }
    }

    private static void appendWhenThereAre64() {
        Check.sentence("2", "NONE when there are 64");
        TileLog log = Logs.filled(63);
        Check.due("the 64th", log.append(163), 63);
        Check.due("the 65th", log.append(5), TileLog.NONE);
        Check.due("length()", log.length(), 64);
        Check.due("writes()", log.writes(), 64);
        Check.due("entry(63)", log.entry(63), 163);
        Check.due("entry(0)", log.entry(0), 100);
        log.publish();
        Check.due("when they are published too", log.append(5), TileLog.NONE);
    }

    private static void appendWhileDown() {
        Check.sentence("2", "DOWN");
        TileLog log = Logs.fallen(3);
        Check.due("append", log.append(5), TileLog.DOWN);
        Check.due("entry(3)", log.entry(3), 0);
        TileLog full = Logs.fallenAtHead(0, 64);
        Check.due("when there are 64 too", full.append(5), TileLog.DOWN);
        full.recover();
        Check.due("when it is up again", full.append(5), TileLog.NONE);
    }

    private static void appendCrashed() {
        Check.sentence("2", "or CRASHED (then it is not there)");
        for (int n : new int[] {0, 1, 7, 8, 63}) {
            TileLog log = Logs.filled(n);
            log.order(0);
            Check.due("append", log.append(9), TileLog.CRASHED);
            Check.due("entry(" + n + ")", log.entry(n), 0);
            Check.due("rootOf(" + (n + 1) + ")", log.rootOf(n + 1), 0);
            Check.due("writes()", log.writes(), n);
            Check.due("recover()", log.recover(), n);
            Check.due("append again", log.append(8), n);
            Check.due("entry(" + n + ")", log.entry(n), 8);
        }
    }

    // ---- promise 3

    private static void publishesIfThereIsMore() {
        Check.sentence("3", "Publishes, if the length is not the published size.");
        TileLog log = new TileLog();
        int writes = 0;
        int before = 0;
        int number = 0;
        for (int n : new int[] {1, 2, 8, 9, 16, 40, 63, 64}) {
            Logs.fill(log, n);
            number++;
            Check.due("publish " + n, log.publish(), number);
            writes += n - before + Logs.tilesToWrite(before, n) + 1;
            Check.due("writes()", log.writes(), writes);
            Check.due("size", log.size(number % 2), n);
            Check.due("root", log.root(number % 2), Logs.rootOf(0, n));
            Check.due("the last leaf", log.tile(0, (n - 1) / 8, (n - 1) % 8), Logs.leafOf(n - 1));
            before = n;
        }
    }

    private static void publishWithNothingMore() {
        Check.sentence("3", "Answers the number of the latest head then (0 for none)");
        TileLog empty = new TileLog();
        Check.due("publish of nothing", empty.publish(), 0);
        Check.due("writes()", empty.writes(), 0);
        Check.due("size(0)", empty.size(0), TileLog.NONE);
        Check.due("size(1)", empty.size(1), TileLog.NONE);
        for (int n : new int[] {1, 8, 63, 64}) {
            TileLog log = Logs.published(n);
            int writes = log.writes();
            log.order(0);
            Check.due("publish again", log.publish(), 1);
            Check.due("writes()", log.writes(), writes);
            Check.due("latest()", log.latest(), 1);
            Check.due("it is up", log.length(), n);
        }
    }

    private static void publishWhileDown() {
        Check.sentence("3", "DOWN");
        Check.due("with nothing more", Logs.fallen(3).publish(), TileLog.DOWN);
        Check.due("with nothing at all", Logs.fallen(0).publish(), TileLog.DOWN);
        TileLog log = Logs.fallenAtHead(3, 9);
        int writes = log.writes();
        Check.due("with more", log.publish(), TileLog.DOWN);
        Check.due("writes()", log.writes(), writes);
        Check.due("latest()", log.latest(), 1);
    }

    private static void publishCrashed() {
        Check.sentence("3", "or CRASHED");
        TileLog log = Logs.filled(17);
        for (int n = 0; n <= 4; n++) {
            log.order(n);
            Check.due("behind " + n + " writes", log.publish(), TileLog.CRASHED);
            Check.due("latest()", log.latest(), 0);
            Check.due("recover()", log.recover(), 17);
        }
        log.order(5);
        Check.due("behind all five", log.publish(), 1);
        Check.due("the crash is still to come", log.append(1), TileLog.CRASHED);
    }

    // ---- promise 4

    private static void orderCounts() {
        Check.sentence("4", "The crash is ordered to come in place of the (n + 1)-th write from now");
        for (int n = 0; n <= 20; n++) {
            TileLog log = Logs.filled(2);
            log.order(n);
            for (int i = 0; i < n; i++) {
                Check.due("before it", log.append(i), 2 + i);
            }
            Check.due("the " + (n + 1) + "-th", log.append(n), TileLog.CRASHED);
            Check.due("writes()", log.writes(), 2 + n);
            log.recover();
            for (int i = 0; i < 25; i++) {
                Check.due("it comes once", log.append(i), 2 + n + i);
            }
        }
    }

    /** Writes of every kind count, and calls without one don't. */
    private static void orderGoesOn() {
        TileLog log = new TileLog();
        log.order(4);
        Check.due("publish without a write", log.publish(), 0);
        Check.due("the first write", log.append(1), 0);
        Check.due("the second and third", log.publish(), 1);
        Check.due("publish without a write", log.publish(), 1);
        log.include(0, 1);
        log.offer(0, 1);
        Check.due("recover without need", log.recover(), TileLog.NONE);
        Check.due("the fourth", log.append(2), 1);
        Check.due("the fifth", log.publish(), TileLog.CRASHED);
        TileLog full = Logs.filled(64);
        full.order(1);
        Check.due("append without a place", full.append(1), TileLog.NONE);
        Check.due("append without a place", full.append(1), TileLog.NONE);
        Check.due("publish", full.publish(), TileLog.CRASHED);
        Check.due("one write", full.writes(), 65);
    }

    private static void orderInsteadOfAnother() {
        Check.sentence("4", "instead of one that was ordered");
        TileLog later = new TileLog();
        later.order(0);
        Check.due("a later one", later.order(2), true);
        Check.due("first", later.append(1), 0);
        Check.due("second", later.append(1), 1);
        Check.due("third", later.append(1), TileLog.CRASHED);
        later.recover();
        for (int i = 2; i < 30; i++) {
            Check.due("the other one is gone", later.append(1), i);
        }
        TileLog sooner = new TileLog();
        sooner.order(5);
        Check.due("a sooner one", sooner.order(0), true);
        Check.due("first", sooner.append(1), TileLog.CRASHED);
        sooner.recover();
        for (int i = 0; i < 30; i++) {
            Check.due("the other one is gone", sooner.append(1), i);
        }
        TileLog again = new TileLog();
        again.order(1);
        again.append(1);
        again.order(1);
        Check.due("from now on, not from then", again.append(1), 1);
        Check.due("now", again.append(1), TileLog.CRASHED);
    }

    private static void orderWhileDown() {
        Check.sentence("4", "(also while the log is down, for a write of recovery)");
        for (int n = 0; n < 4; n++) {
            TileLog log = Logs.fallenAtHead(0, 17);
            int writes = log.writes();
            Check.due("order(" + n + ")", log.order(n), true);
            Check.due("recover", log.recover(), TileLog.CRASHED);
            Check.due("writes()", log.writes(), writes + n);
            Check.due("order(" + n + ") again", log.order(n), true);
            Check.due("recover, with fewer writes than four", log.recover(), 4 - n > n ? TileLog.CRASHED : 17);
        }

        TileLog beyond = Logs.fallenAtHead(0, 17);
        beyond.order(6);
        Check.due("recover, with four writes", beyond.recover(), 17);
        Check.due("the fifth write", beyond.append(1), 17);
        Check.due("the sixth write", beyond.append(1), 18);
        Check.due("the seventh write", beyond.append(1), TileLog.CRASHED);

        TileLog without = Logs.fallen(3);
        without.order(0);
        Check.due("recover, with no write", without.recover(), 3);
        Check.due("the first write", without.append(1), TileLog.CRASHED);
    }

    private static void orderRefused() {
        Check.sentence("4", "Answers true; false when n is not 0 .. 20.");
        Check.due("order(0)", new TileLog().order(0), true);
        Check.due("order(20)", new TileLog().order(20), true);
        for (int n : new int[] {-1, 21, -2, 22, LOW, HIGH}) {
            TileLog log = new TileLog();
            Check.due("order(" + n + ")", log.order(n), false);
            for (int i = 0; i < 25; i++) {
                Check.due("no crash is ordered", log.append(i), i);
            }
            log.order(1);
            Check.due("order(" + n + ")", log.order(n), false);
            Check.due("the other order stays", log.append(25), 25);
            Check.due("and comes", log.append(26), TileLog.CRASHED);
            Check.due("order(" + n + ") while down", log.order(n), false);
            Check.due("recover", log.recover(), 26);
        }
    }

    // ---- promise 5

    private static void recoversIfDown() {
        Check.sentence("5", "Recovery, if the log is down.");
        TileLog log = Logs.fallenAtHead(10, 20);
        Check.due("a tile goes beyond the head", log.tile(0, 2, 3), Logs.leafOf(19));
        int writes = log.writes();
        Check.due("recover()", log.recover(), 20);
        Check.due("three tiles are put right", log.writes(), writes + 3);
        Check.due("what is published stays", log.tile(0, 1, 1), Logs.leafOf(9));
        Check.due("what is behind it goes", log.tile(0, 1, 2), 0);
        Check.due("a whole tile behind it goes", log.tile(0, 2, 0), 0);
        Check.due("the group's root stays", log.tile(1, 0, 0), Logs.rootOf(0, 8));
        Check.due("the root of the one behind it goes", log.tile(1, 0, 1), 0);
        Check.due("the heads stay", log.latest(), 1);
        TileLog nothing = Logs.fallen(0);
        Check.due("with nothing on the disk", nothing.recover(), 0);
        Check.due("no write", nothing.writes(), 0);
    }

    private static void recoverAnswersTheLength() {
        Check.sentence("5", "Answers the length (entries behind the published size stay)");
        for (int n : new int[] {1, 20, 64}) {
            TileLog log = Logs.fallenAtHead(0, n);
            Check.due("recover()", log.recover(), n);
            Check.due("length()", log.length(), n);
            for (int i = 0; i < n; i++) {
                Check.due("entry(" + i + ")", log.entry(i), 100 + i);
            }
            Check.due("publish()", log.publish(), 1);
            Check.due("size(1)", log.size(1), n);
        }
        TileLog both = Logs.fallenAtHead(5, 9);
        Check.due("some of them published", both.recover(), 9);
        Check.due("entry(8)", both.entry(8), 108);
        Check.due("not published still", both.find(108), TileLog.NONE);
    }

    private static void recoverWhenNotDown() {
        Check.sentence("5", "NONE when it is not down");
        Check.due("a new one", new TileLog().recover(), TileLog.NONE);
        TileLog log = Logs.published(9);
        Logs.fill(log, 12);
        log.order(0);
        Check.due("with a crash that is ordered", log.recover(), TileLog.NONE);
        Check.due("that crash is still to come", log.append(1), TileLog.CRASHED);
        Check.due("down", log.recover(), 12);
        Check.due("not any more", log.recover(), TileLog.NONE);
    }

    private static void recoverCrashed() {
        Check.sentence("5", "or CRASHED (it is down still)");
        TileLog log = Logs.fallenAtHead(20, 21);
        log.order(0);
        Check.due("recover()", log.recover(), TileLog.CRASHED);
        Check.due("the tile is as it was", log.tile(0, 2, 4), Logs.leafOf(20));
        Check.due("length()", log.length(), TileLog.DOWN);
        Check.due("append", log.append(1), TileLog.DOWN);
        Check.due("recover() at last", log.recover(), 21);
        Check.due("the tile is right", log.tile(0, 2, 4), 0);
    }

    // ---- promises 6 to 10

    private static void writes() {
        Check.sentence("6", "How many writes there were (one in whose place a crash came is none).");
        TileLog log = Logs.filled(9);
        Check.due("entries", log.writes(), 9);
        log.publish();
        Check.due("three tiles and a head", log.writes(), 13);
        log.order(0);
        log.append(1);
        Check.due("a crash in place of an entry", log.writes(), 13);
        log.recover();
        Check.due("nothing to put right", log.writes(), 13);
        log.append(1);
        log.order(0);
        log.publish();
        Check.due("a crash in place of a tile", log.writes(), 14);
        log.recover();
        log.order(1);
        log.publish();
        Check.due("a tile, and a crash in place of a head", log.writes(), 15);
        log.order(0);
        log.recover();
        Check.due("a crash in place of a write of recovery", log.writes(), 15);
        log.recover();
        Check.due("a tile put right", log.writes(), 16);
        log.offer(0, 1);
        log.include(0, 9);
        log.extend(1, 9);
        log.find(1);
        Check.due("what is not on the disk is none", log.writes(), 16);
    }

    private static void length() {
        Check.sentence("7", "The length; DOWN when the log is down.");
        Check.due("of an empty log", new TileLog().length(), 0);
        Check.due("of a full one", Logs.filled(64).length(), 64);
        TileLog log = Logs.fallenAtHead(3, 5);
        Check.due("down", log.length(), TileLog.DOWN);
        log.recover();
        Check.due("with entries that are not published", log.length(), 5);
        log.publish();
        Check.due("published", log.length(), 5);
        Check.due("down with nothing on the disk", Logs.fallen(0).length(), TileLog.DOWN);
    }

    private static void size() {
        Check.sentence("8", "The size of the head at a place (0 or 1) of the disk; NONE when there is none.");
        TileLog log = Logs.filled(3);
        Check.due("size(1) before it is published", log.size(1), TileLog.NONE);
        log.publish();
        Check.due("size(1)", log.size(1), 3);
        Check.due("size(0)", log.size(0), TileLog.NONE);
        Logs.fill(log, 64);
        Check.due("size(1) is the head's, not the length", log.size(1), 3);
        log.publish();
        Check.due("size(0)", log.size(0), 64);
        Check.due("size(1) stays", log.size(1), 3);
        for (int place : new int[] {-1, 2, 3, -2, LOW, HIGH}) {
            Check.due("size(" + place + ")", log.size(place), TileLog.NONE);
        }
        TileLog down = Logs.fallenAtHead(4, 6);
        Check.due("size(1) while down", down.size(1), 4);
        Check.due("size(0) while down", down.size(0), TileLog.NONE);
    }

    private static void root() {
        Check.sentence("9", "The root of the head at a place of the disk; 0 when there is none.");
        TileLog log = Logs.filled(3);
        Check.due("root(1) before it is published", log.root(1), 0);
        log.publish();
        Check.due("root(1)", log.root(1), Logs.rootOf(0, 3));
        Check.due("root(0)", log.root(0), 0);
        Logs.fill(log, 64);
        Check.due("root(1) is the head's", log.root(1), Logs.rootOf(0, 3));
        log.publish();
        Check.due("root(0)", log.root(0), Logs.rootOf(0, 64));
        Check.due("root(1) stays", log.root(1), Logs.rootOf(0, 3));
        for (int place : new int[] {-1, 2, 3, -2, LOW, HIGH}) {
            Check.due("root(" + place + ")", log.root(place), 0);
        }
        TileLog down = Logs.fallenAtHead(4, 6);
        Check.due("root(1) while down", down.root(1), Logs.rootOf(0, 4));
        Check.due("root(0) while down", down.root(0), 0);
    }

    private static void latest() {
        Check.sentence("10", "The number of the latest head on the disk; 0 when there is none.");
        TileLog log = new TileLog();
        Check.due("none", log.latest(), 0);
        for (int number = 1; number <= 9; number++) {
            log.append(number);
            Check.due("before", log.latest(), number - 1);
            log.publish();
            Check.due("then", log.latest(), number);
        }
        log.append(10);
        log.order(1);
        log.publish();
        Check.due("a crash in place of the head", log.latest(), 9);
        log.recover();
        Check.due("after recovery", log.latest(), 9);
        Check.due("none, while down", Logs.fallenAtHead(0, 3).latest(), 0);
    }

    // ---- promises 11 and 12

    private static void tileOnTheDisk() {
        Check.sentence("11", "Hash i of tile t of a band, as it is on the disk");
        TileLog log = Logs.published(62);
        Logs.fill(log, 64);
        Check.due("an entry that is not published", log.tile(0, 7, 6), 0);
        Check.due("a group that is not published", log.tile(1, 0, 7), 0);
        log.publish();
        for (int i = 0; i < 64; i++) {
            Check.due("band 0", log.tile(0, i / 8, i % 8), Logs.leafOf(i));
        }
        for (int i = 0; i < 8; i++) {
            Check.due("band 1", log.tile(1, 0, i), Logs.rootOf(8 * i, 8));
        }
        TileLog down = Logs.fallenAtHead(6, 8);
        Check.due("what a crash leaves of band 0", down.tile(0, 0, 7), Logs.leafOf(7));
        Check.due("what a crash leaves of band 1", down.tile(1, 0, 0), Logs.rootOf(0, 8));
    }

    private static void tileWhenThereIsNone() {
        Check.sentence("11", "0 when there is none.");
        TileLog log = Logs.published(64);
        for (int x : new int[] {-1, 8, 9, -8, LOW, HIGH}) {
            for (int y = 0; y < 8; y++) {
                Check.due("tile(0, " + x + ", " + y + ")", log.tile(0, x, y), 0);
                Check.due("tile(0, " + y + ", " + x + ")", log.tile(0, y, x), 0);
                Check.due("tile(1, " + x + ", " + y + ")", log.tile(1, x, y), 0);
            }
            Check.due("tile(1, 0, " + x + ")", log.tile(1, 0, x), 0);
        }
        for (int t = 1; t < 8; t++) {
            Check.due("tile(1, " + t + ", 0)", log.tile(1, t, 0), 0);
        }
        for (int band : new int[] {-1, 2, 8, LOW, HIGH}) {
            Check.due("tile(" + band + ", 0, 0)", log.tile(band, 0, 0), 0);
            Check.due("tile(" + band + ", 1, 1)", log.tile(band, 1, 1), 0);
        }
    }

    private static void entryOnTheDisk() {
        Check.sentence("12", "The entry at place i of the disk");
        TileLog log = Logs.filled(64);
        for (int i = 0; i < 64; i++) {
            Check.due("entry(" + i + ")", log.entry(i), 100 + i);
        }
        TileLog down = Logs.fallenAtHead(1, 3);
        Check.due("while down", down.entry(2), 102);
    }

    private static void entryWhenThereIsNone() {
        Check.sentence("12", "0 when it is empty or there is none.");
        TileLog log = Logs.filled(2);
        for (int i : new int[] {2, 3, 62, 63}) {
            Check.due("empty: entry(" + i + ")", log.entry(i), 0);
        }
        TileLog full = Logs.filled(64);
        for (int i : new int[] {-1, 64, 65, LOW, HIGH}) {
            Check.due("none: entry(" + i + ")", full.entry(i), 0);
        }
    }

    // ---- promises 13 and 14

    private static void findTheLeast() {
        Check.sentence("13", "The least place below the published size whose entry has the same leaf's hash as e");
        TileLog log = new TileLog();
        long[] row = {3, 0, 3, -1, 0, Long.MIN_VALUE, Long.MAX_VALUE, -1, 3};
        int[] least = {0, 1, 0, 3, 1, 5, 6, 3, 0};
        for (long e : row) {
            log.append(e);
        }
        log.publish();
        for (int i = 0; i < row.length; i++) {
            Check.due("find(" + row[i] + ")", log.find(row[i]), least[i]);
        }
        Check.due("the last of 64", Logs.published(64).find(163), 63);
        Check.due("the first of 64", Logs.published(64).find(100), 0);
    }

    private static void findBelowThePublishedSize() {
        TileLog log = Logs.published(5);
        Logs.fill(log, 8);
        Check.due("the last published one", log.find(104), 4);
        Check.due("the first that is not", log.find(105), TileLog.NONE);
        log.publish();
        Check.due("when it is", log.find(105), 5);
        TileLog crashed = Logs.fallenAtHead(5, 8);
        crashed.recover();
        Check.due("a crash in place of the head", crashed.find(105), TileLog.NONE);
        Check.due("what was published before", crashed.find(104), 4);
    }

    private static void findNoneAndDown() {
        Check.sentence("13", "NONE when there is none, DOWN.");
        Check.due("in an empty log", new TileLog().find(0), TileLog.NONE);
        Check.due("where none is published", Logs.filled(3).find(100), TileLog.NONE);
        TileLog log = Logs.published(3);
        for (long e : new long[] {0, 99, 103, -100, 100 + (1L << 32), Long.MIN_VALUE}) {
            Check.due("find(" + e + ")", log.find(e), TileLog.NONE);
        }
        Check.due("DOWN, though it is there", Logs.fallen(3).find(100), TileLog.DOWN);
        Check.due("DOWN, where there is none", Logs.fallen(3).find(5), TileLog.DOWN);
        Check.due("DOWN, in an empty log", Logs.fallen(0).find(0), TileLog.DOWN);
    }

    private static void rootOfTheFirst() {
        Check.sentence("14", "The ROOT of the first n entries on the disk (the log up or down)");
        TileLog log = Logs.filled(64);
        for (int n = 0; n <= 64; n++) {
            Check.due("rootOf(" + n + ")", log.rootOf(n), Logs.rootOf(0, n));
        }
        TileLog down = Logs.fallenAtHead(2, 9);
        for (int n = 0; n <= 9; n++) {
            Check.due("rootOf(" + n + ") while down", down.rootOf(n), Logs.rootOf(0, n));
        }
    }

    private static void rootOfRefused() {
        Check.sentence("14", "0 when n is not from 0 to the number of entries there.");
        TileLog log = Logs.filled(3);
        for (int n : new int[] {-1, 4, 5, 63, 64, 65, LOW, HIGH}) {
            Check.due("rootOf(" + n + ") of three", log.rootOf(n), 0);
        }
        Check.due("rootOf(3)", log.rootOf(3), Logs.rootOf(0, 3));
        TileLog full = Logs.published(64);
        for (int n : new int[] {-1, 65, 66, LOW, HIGH}) {
            Check.due("rootOf(" + n + ") of 64", full.rootOf(n), 0);
        }
        Check.due("rootOf(64)", full.rootOf(64), Logs.rootOf(0, 64));
        TileLog down = Logs.fallen(3);
        Check.due("rootOf(3) while down", down.rootOf(3), Logs.rootOf(0, 3));
        Check.due("rootOf(4) while down: the entry is not there", down.rootOf(4), 0);
        Check.due("rootOf(1) of none", new TileLog().rootOf(1), 0);
    }

    private LogPromisesTest() { }
}
