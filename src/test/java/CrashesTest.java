/** A crash in place of every write of a run of appends and publishings, and of the recovery behind it. */
final class CrashesTest {
    public static void main(String[] args) {
        for (int before = 0; before <= 64; before += 4) {
            for (int behind = 1; before + behind <= 64; behind += 3) {
                for (int n = 0; n <= 11; n++) {
                    crashInPublish(before, behind, n);
                }
            }
        }
        for (int n = 0; n <= 20; n++) {
            crashWhileAppending(n);
        }
        Check.end();
    }

    /** Both heads and their logs are there, and the tiles are right for the latest one. */
    private static void compareDisks(String when, TileLog log, Reference model) {
        for (int t = 0; t < 8; t++) {
            for (int i = 0; i < 8; i++) {
                Check.due(when + ": tile", log.tile(0, t, i), model.tile(0, t, i));
            }
        }
        for (int i = 0; i < 8; i++) {
            Check.due(when + ": tile of band 1", log.tile(1, 0, i), model.tile(1, 0, i));
        }
        for (int place = 0; place < 2; place++) {
            Check.due(when + ": size", log.size(place), model.size(place));
            Check.due(when + ": root", log.root(place), model.root(place));
        }
        Check.due(when + ": writes", log.writes(), model.writes());
        Check.due(when + ": length", log.length(), model.length());
        Check.due(when + ": latest", log.latest(), model.latest());
    }

    private static void appendAll(TileLog log, Reference model, int count) {
        for (int i = 0; i < count; i++) {
            long e = 31L * i - 7;
            Check.due("append", log.append(e), model.append(e));
        }
    }

    private static void crashInPublish(int before, int behind, int n) {
        TileLog log = new TileLog();
        Reference model = new Reference();
        appendAll(log, model, before);
        Check.due("publish", log.publish(), model.publish());
        appendAll(log, model, behind);
        log.order(n);
        model.order(n);
        Check.due("publish with a crash", log.publish(), model.publish());
        compareDisks("after the crash", log, model);
        boolean down = model.down;
        log.order(n / 2);
        model.order(n / 2);
        Check.due("recover with a crash", log.recover(), model.recover());
        compareDisks("after recovery", log, model);
        Check.due("recover again", log.recover(), model.recover());
        if (down) {
            Check.due("recover never gives up an entry", log.length(), before + behind);
        }
        log.order(20);
        model.order(20);
        Check.due("publish at last", log.publish(), model.publish());
        compareDisks("at last", log, model);
    }

    private static void crashWhileAppending(int n) {
        TileLog log = new TileLog();
        Reference model = new Reference();
        log.order(n);
        model.order(n);
        for (int i = 0; i < 40; i++) {
            Check.due("append", log.append(i), model.append(i));
            if (i % 5 == 4) {
                Check.due("publish", log.publish(), model.publish());
            }
            if (i % 13 == 12) {
                Check.due("recover", log.recover(), model.recover());
            }
        }
        compareDisks("after appending", log, model);
    }

    private CrashesTest() { }
}
