import java.util.ArrayList;
import java.util.List;

/** Logs to begin a test with: their entries are 100, 101 and so on. */
final class Logs {
    static final int LOW = Integer.MIN_VALUE;
    static final int HIGH = Integer.MAX_VALUE;

    private Logs() { }

    static TileLog filled(int n) {
        TileLog log = new TileLog();
        fill(log, n);
        return log;
    }

    /** Appends until there are n entries. */
    static void fill(TileLog log, int n) {
        for (int i = log.length(); i < n; i++) {
            log.append(100 + i);
        }
    }

    static TileLog published(int n) {
        TileLog log = filled(n);
        log.publish();
        return log;
    }

    /** Down, with n entries (fewer than 64) published, and nothing that has to be put right. */
    static TileLog fallen(int n) {
        TileLog log = published(n);
        log.order(0);
        log.append(1);
        return log;
    }

    /** Down, with some entries published and more behind them: all tiles were written, the head was not. */
    static TileLog fallenAtHead(int published, int n) {
        TileLog log = published(published);
        fill(log, n);
        log.order(tilesToWrite(published, n));
        Check.due("publish with a crash at the head", log.publish(), TileLog.CRASHED);
        return log;
    }

    /** How many tiles change when a log grows from one size to another. */
    static int tilesToWrite(int from, int to) {
        int lower = from == to ? 0 : (to - 1) / 8 - from / 8 + 1;
        return lower + (to / 8 == from / 8 ? 0 : 1);
    }

    static long leafOf(int place) {
        return Reference.leaf(100 + place);
    }

    /** The entries of a log that was filled. */
    static List<Long> row(int n) {
        List<Long> row = new ArrayList<>();
        for (long e = 100; e < 100 + n; e++) {
            row.add(e);
        }
        return row;
    }

    /** ROOT of n entries, of which the first one is at a place. */
    static long rootOf(int from, int n) {
        return Reference.rootOfRow(row(from + n).subList(from, from + n));
    }
}
