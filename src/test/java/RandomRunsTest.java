import java.util.Arrays;
import java.util.Random;

/** Runs of up to 512 calls, the same ones each time, with every answer compared to the reference's. */
final class RandomRunsTest {
    private static final int RUNS = 1500;
    private static final int CALLS = 512;
    private static final long HASHED_TO_ZERO = Unhash.entryOf(0);

    private final Random random;
    private final TileLog log = new TileLog();
    private final Reference model = new Reference();
    private final StringBuilder told = new StringBuilder();
    private int calls = 0;
    // The arguments of the call at hand.
    private int m;
    private int n;
    private int i;
    private long e;

    private RandomRunsTest(long seed) {
        random = new Random(seed);
        told.append("run ").append(seed).append(':');
    }

    public static void main(String[] args) {
        for (int seed = 1; seed <= RUNS && Check.wrongSoFar() == 0; seed++) {
            new RandomRunsTest(seed).run();
        }
        Check.end();
    }

    private void run() {
        int wrongBefore = Check.wrongSoFar();
        // A run keeps its own leaning, so that some fill the log and others hardly publish.
        int appends = 1 + random.nextInt(12);
        int crashes = random.nextInt(4);
        while (calls < CALLS - 12 && Check.wrongSoFar() == wrongBefore) {
            int choice = random.nextInt(24 + appends + crashes);
            if (choice < 24) {
                anyCall(choice);
            } else if (choice < 24 + appends) {
                anyCall(0);
            } else {
                due("order", log.order(n = random.nextInt(6)), model.order(n), n);
            }
        }
        while (calls < CALLS && Check.wrongSoFar() == wrongBefore) {
            anyCall(random.nextInt(9));
        }
    }

    /** The greatest place or size to try for a size that may itself be wrong. */
    private static int within(int size, int most) {
        return Math.max(1, Math.min(size, most));
    }

    private void due(String call, long got, long want, long... arguments) {
        calls++;
        told.append(' ').append(call).append(Arrays.toString(arguments));
        Check.due(got == want ? call : told.toString(), got, want);
    }

    private void due(String call, boolean got, boolean want, long... arguments) {
        due(call, got ? 1 : 0, want ? 1 : 0, arguments);
    }

    /** Mostly from low to high, now and then just beyond, seldom far beyond. */
    private int near(int low, int high) {
        int choice = random.nextInt(40);
        if (choice == 0) {
            return random.nextInt();
        }
        if (choice == 1) {
            return random.nextBoolean() ? Integer.MIN_VALUE : Integer.MAX_VALUE;
        }
        if (choice < 6) {
            return random.nextBoolean() ? low - 1 : high + 1;
        }
        return low + random.nextInt(high - low + 1);
    }

    private long anyEntry() {
        int choice = random.nextInt(20);
        if (choice == 0) {
            return HASHED_TO_ZERO;
        }
        return choice < 3 ? random.nextLong() : random.nextInt(40) - 20;
    }

    private void anyCall(int choice) {
        switch (choice) {
            case 0 -> due("append", log.append(e = anyEntry()), model.append(e), e);
            case 1, 2 -> due("publish", log.publish(), model.publish());
            case 3, 4 -> due("recover", log.recover(), model.recover());
            case 5 -> due("order", log.order(n = near(0, 20)), model.order(n), n);
            case 6 -> due("writes", log.writes(), model.writes());
            case 7 -> due("length", log.length(), model.length());
            case 8 -> due("size", log.size(i = near(0, 1)), model.size(i), i);
            case 9 -> due("root", log.root(i = near(0, 1)), model.root(i), i);
            case 10 -> due("latest", log.latest(), model.latest());
            case 11, 12 -> {
                int band = near(0, 1);
                int t = band == 1 ? near(0, 0) : near(0, 7);
                i = near(0, 7);
                due("tile", log.tile(band, t, i), model.tile(band, t, i), band, t, i);
            }
            case 13 -> due("entry", log.entry(i = near(0, 64)), model.entry(i), i);
            case 14 -> due("find", log.find(e = anyEntry()), model.find(e), e);
            case 15 -> due("rootOf", log.rootOf(n = near(0, model.entries.size())), model.rootOf(n), n);
            case 16 -> includeAndShow();
            case 17 -> extendAndLead();
            case 18 -> due("proof", log.proof(i = near(0, 6)), model.proof(i), i);
            case 19 -> due("offer", log.offer(i = near(0, 7), e = anyEntry()), model.offer(i, e), i, e);
            case 20 -> due("offers", log.offers(n = near(0, 8)), model.offers(n), n);
            case 21 -> anyShows();
            case 22 -> anyLeads();
            default -> due("proof", log.proof(i = near(0, 6)), model.proof(i), i);
        }
    }

    private void offerProof() {
        for (int k = 0; k < model.proof.size(); k++) {
            long hash = model.proof(k);
            due("offer", log.offer(k, hash), model.offer(k, hash), k, hash);
        }
        n = model.proof.size();
        due("offers", log.offers(n), model.offers(n), n);
    }

    private void includeAndShow() {
        n = near(1, within(model.published(), 64));
        m = near(0, within(n, 64) - 1);
        int size = n;
        due("include", log.include(m, size), model.include(m, size), m, size);
        if (calls < CALLS - 24 && random.nextBoolean()) {
            offerProof();
            long root = model.rootOf(size);
            due("shows", log.shows(model.entry(m), m, size, root), model.shows(model.entry(m), m, size, root),
                model.entry(m), m, size, root);
        }
    }

    private void extendAndLead() {
        n = near(1, within(model.published(), 64));
        m = near(1, within(n, 64));
        int size = n;
        due("extend", log.extend(m, size), model.extend(m, size), m, size);
        if (calls < CALLS - 24 && random.nextBoolean()) {
            offerProof();
            long first = model.rootOf(m);
            long second = model.rootOf(size);
            due("leads", log.leads(m, size, first, second), model.leads(m, size, first, second),
                m, size, first, second);
        }
    }

    private int anySize() {
        return random.nextBoolean() ? near(1, 10) : near(1, 1000000);
    }

    private void anyShows() {
        n = anySize();
        m = near(0, within(n, 1000000) - 1);
        long root = random.nextBoolean() ? model.rootOf(n) : Reference.leaf(5);
        due("shows", log.shows(5, m, n, root), model.shows(5, m, n, root), m, n, root);
    }

    private void anyLeads() {
        n = anySize();
        m = random.nextInt(4) == 0 ? n : near(1, within(n, 1000000));
        long first = model.rootOf(m);
        long second = random.nextBoolean() ? first : model.rootOf(n);
        due("leads", log.leads(m, n, first, second), model.leads(m, n, first, second), m, n, first, second);
    }
}
