/** A crash in place of every write of a run of appends and publishings, and of the recovery behind it. */
final class CrashesTest {
    public static void main(String[] args) {
        for (int before : new int[] {0, 1, 7, 8, 9, 30, 56, 63}) {
            for (int behind : new int[] {1, 7, 8, 17, 34, 64}) {
                if (before + behind <= 64) {
                    crashInEveryWrite(before, behind);
                }
            }
        }
        for (int n = 0; n <= 20; n++) {
            crashWhileAppending(n);
        }
        Check.end();
    }

    private static void compareDisks(String when, TileLog log, Reference model) {
        for (int t = 0; t < 8; t++) {
            for (int i = 0; i < 8; i++) {
                Check.due(when + ": tile", log.tile(0, t, i), model.tile(0, t, i));
            }
        }
        for (int i = 0; i < 8; i++) {
            Check.due(when + ": tile of band 1", log.tile(1, 0, i), model.tile(1, 0, i));
        }
        for (int place = 0; place < 2; place++) {
            Check.due(when + ": size", log.size(place), model.size(place));
            Check.due(when + ": root", log.root(place), model.root(place));
        }
        Check.due(when + ": writes", log.writes(), model.writes());
        Check.due(when + ": length", log.length(), model.length());
        Check.due(when + ": latest", log.latest(), model.latest());
    }

    private static void appendAll(TileLog log, Reference model, int count) {
        for (int i = 0; i < count; i++) {
            long e = 31L * i - 7;
            Check.due("append", log.append(e), model.append(e));
        }
    }

    /** At most ten writes publish, and nine recover. */
    private static void crashInEveryWrite(int before, int behind) {
        for (int n = 0; n <= 10; n++) {
            for (int again = 0; again <= n && again <= 9; again++) {
                crashInPublish(before, behind, n, again);
            }
        }
    }

    /** A crash behind n writes of publishing, and one behind some writes of the recovery from it. */
    private static void crashInPublish(int before, int behind, int n, int again) {
        TileLog log = new TileLog();
        Reference model = new Reference();
        appendAll(log, model, before);
        Check.due("publish", log.publish(), model.publish());
        appendAll(log, model, behind);
        log.order(n);
        model.order(n);
        Check.due("publish with a crash", log.publish(), model.publish());
        compareDisks("after the crash", log, model);
        boolean down = model.down;
        log.order(again);
        model.order(again);
        Check.due("recover with a crash", log.recover(), model.recover());
        compareDisks("after recovery", log, model);
        Check.due("recover again", log.recover(), model.recover());
        if (down) {
            Check.due("recover never gives up an entry", log.length(), before + behind);
        }
        log.order(20);
        model.order(20);
        Check.due("publish at last", log.publish(), model.publish());
        compareDisks("at last", log, model);
    }

    private static void crashWhileAppending(int n) {
        TileLog log = new TileLog();
        Reference model = new Reference();
        log.order(n);
        model.order(n);
        for (int i = 0; i < 40; i++) {
            Check.due("append", log.append(i), model.append(i));
            if (i % 5 == 4) {
                Check.due("publish", log.publish(), model.publish());
            }
            if (i % 13 == 12) {
                Check.due("recover", log.recover(), model.recover());
            }
        }
        compareDisks("after appending", log, model);
    }

    private CrashesTest() { }
}
