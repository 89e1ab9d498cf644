import java.util.ArrayList;
import java.util.List;
import java.util.function.Consumer;
import java.util.function.ToLongFunction;

/**
 * The last sentences under "Terms", in many states: what is refused, and what only answers, changes nothing.
 * Two logs are brought into the same state; one of them gets the call, and no later answer may tell them apart.
 */
final class RefusedTest {
    private static final int LOW = Logs.LOW;
    private static final int HIGH = Logs.HIGH;
    private static final int OFFERED = 3;

    private record State(String name, Consumer<TileLog> setUp) { }

    private record Call(String name, ToLongFunction<TileLog> on, long due) { }

    /** What is known about a log before the call. */
    private static final class Facts {
        final boolean down;
        final int entries;
        final int published;
        final int number;
        final int proof;

        Facts(TileLog log) {
            down = log.length() == TileLog.DOWN;
            number = log.latest();
            published = number == 0 ? 0 : log.size(number % 2);
            int filled = 0;
            while (filled < 64 && log.rootOf(filled + 1) != 0) {
                filled++;
            }
            entries = filled;
            int hashes = 0;
            while (log.proof(hashes) != 0) {
                hashes++;
            }
            proof = hashes;
        }
    }

    public static void main(String[] args) {
        Check.sentence("Terms", "A call that names DOWN answers that when the log is down,"
            + " whatever else would be so.");
        for (State state : states()) {
            changesNothing(state, callsThatNameDown(new Facts(inState(state))));
        }
        Check.sentence("Terms", "A call that is refused changes nothing.");
        for (State state : states()) {
            changesNothing(state, refusedCalls(new Facts(inState(state))));
            changesNothing(state, callsThatOnlyAnswer(state));
        }
        Check.end();
    }

    // ---- states

    private static List<State> states() {
        List<State> states = new ArrayList<>();
        states.add(new State("new", log -> { }));
        states.add(new State("new, a crash is ordered", log -> log.order(2)));
        states.add(new State("none published", log -> Logs.fill(log, 9)));
        states.add(new State("all published", log -> grow(log, 9, 9)));
        states.add(new State("some published, a crash is ordered", log -> {
            grow(log, 9, 20);
            log.order(5);
        }));
        states.add(new State("full, none published, a crash is ordered", log -> {
            Logs.fill(log, 64);
            log.order(0);
        }));
        states.add(new State("full, all published", log -> grow(log, 40, 64, 64)));
        states.add(new State("two heads, a crash is ordered", log -> {
            grow(log, 3, 10, 12);
            log.order(0);
        }));
        states.add(new State("down, empty", log -> fall(log, 0)));
        states.add(new State("down, all right", log -> {
            grow(log, 9, 9);
            fall(log, 0);
            log.order(1);
        }));
        states.add(new State("down, tiles to be put right", log -> {
            grow(log, 9, 30);
            fall(log, 3);
        }));
        states.add(new State("down, a crash is ordered for recovery", log -> {
            grow(log, 9, 30);
            fall(log, 3);
            log.order(1);
        }));
        states.add(new State("down in recovery", log -> {
            grow(log, 9, 30);
            fall(log, 4);
            log.order(2);
            log.recover();
        }));
        states.add(new State("down, full", log -> {
            Logs.fill(log, 64);
            fall(log, 9);
        }));
        return states;
    }

    /** Publishes at each of the sizes but the last one, and makes a proof. */
    private static void grow(TileLog log, int... sizes) {
        for (int i = 0; i < sizes.length; i++) {
            Logs.fill(log, sizes[i]);
            if (i < sizes.length - 1) {
                log.publish();
                log.include(0, sizes[i]);
            }
        }
    }

    /** A crash behind some writes of publishing, or in place of an append if there are none. */
    private static void fall(TileLog log, int writes) {
        log.order(writes);
        Check.due("the crash", writes == 0 ? log.append(1) : log.publish(), TileLog.CRASHED);
    }

    /** A log in a state, with an offer. */
    private static TileLog inState(State state) {
        TileLog log = new TileLog();
        for (int i = 0; i < 8; i++) {
            log.offer(i, 40 + i);
        }
        log.offers(OFFERED);
        state.setUp().accept(log);
        return log;
    }

    // ---- calls

    private static long bit(boolean answer) {
        return answer ? 1 : 0;
    }

    private static List<Call> callsThatNameDown(Facts facts) {
        List<Call> calls = new ArrayList<>();
        if (facts.down) {
            for (long e : new long[] {5, 0, 100}) {
                calls.add(new Call("append(" + e + ")", log -> log.append(e), TileLog.DOWN));
                calls.add(new Call("find(" + e + ")", log -> log.find(e), TileLog.DOWN));
            }
            calls.add(new Call("publish()", TileLog::publish, TileLog.DOWN));
            calls.add(new Call("length()", TileLog::length, TileLog.DOWN));
            int[] numbers = {LOW, -1, 0, 1, 2, 9, 10, 64, 65, HIGH};
            for (int m : numbers) {
                for (int n : numbers) {
                    calls.add(new Call("include(" + m + ", " + n + ")", log -> log.include(m, n), TileLog.DOWN));
                    calls.add(new Call("extend(" + m + ", " + n + ")", log -> log.extend(m, n), TileLog.DOWN));
                }
            }
        }
        return calls;
    }

    private static List<Call> refusedCalls(Facts facts) {
        List<Call> calls = new ArrayList<>();
        for (int n : new int[] {LOW, -1, 21, HIGH}) {
            calls.add(new Call("order(" + n + ")", log -> bit(log.order(n)), 0));
        }
        for (int i : new int[] {LOW, -1, 8, HIGH}) {
            calls.add(new Call("offer(" + i + ", 7)", log -> bit(log.offer(i, 7)), 0));
        }
        for (int n : new int[] {LOW, -1, 9, HIGH}) {
            calls.add(new Call("offers(" + n + ")", log -> bit(log.offers(n)), 0));
        }
        for (int place : new int[] {LOW, -1, 2, HIGH}) {
            calls.add(new Call("size(" + place + ")", log -> log.size(place), TileLog.NONE));
            calls.add(new Call("root(" + place + ")", log -> log.root(place), 0));
            calls.add(new Call("tile(" + place + ", 0, 0)", log -> log.tile(place, 0, 0), 0));
        }
        for (int n : new int[] {LOW, -1, facts.entries + 1, 65, HIGH}) {
            calls.add(new Call("rootOf(" + n + ")", log -> log.rootOf(n), 0));
            calls.add(new Call("entry(" + n + ")", log -> log.entry(n), 0));
        }
        for (int i : new int[] {LOW, -1, facts.proof, 7, 8, HIGH}) {
            calls.add(new Call("proof(" + i + ")", log -> log.proof(i), 0));
        }
        calls.add(new Call("shows(5, 1, 1, 0)", log -> bit(log.shows(5, 1, 1, 0)), 0));
        calls.add(new Call("shows(5, 0, 1000001, 0)", log -> bit(log.shows(5, 0, 1000001, 0)), 0));
        calls.add(new Call("leads(0, 1, 0, 0)", log -> bit(log.leads(0, 1, 0, 0)), 0));
        calls.add(new Call("leads(1, 1000001, 0, 0)", log -> bit(log.leads(1, 1000001, 0, 0)), 0));
        if (!facts.down) {
            calls.addAll(refusedWhileUp(facts));
        }
        return calls;
    }

    private static List<Call> refusedWhileUp(Facts facts) {
        List<Call> calls = new ArrayList<>();
        calls.add(new Call("recover()", TileLog::recover, TileLog.NONE));
        calls.add(new Call("find(99)", log -> log.find(99), TileLog.NONE));
        if (facts.entries == 64) {
            calls.add(new Call("append(5)", log -> log.append(5), TileLog.NONE));
        }
        if (facts.entries == facts.published) {
            calls.add(new Call("publish()", TileLog::publish, facts.number));
        }
        int size = facts.published;
        int[][] pairs = {{0, 0}, {-1, size}, {size, size}, {0, size + 1}, {size, size + 1}, {0, -1}, {LOW, LOW},
            {HIGH, HIGH}, {0, HIGH}, {-1, HIGH}};
        for (int[] pair : pairs) {
            int m = pair[0];
            int n = pair[1];
            calls.add(new Call("include(" + m + ", " + n + ")", log -> log.include(m, n), TileLog.NONE));
            int over = m == size ? n + 1 : m;
            calls.add(new Call("extend(" + over + ", " + n + ")", log -> log.extend(over, n), TileLog.NONE));
        }
        return calls;
    }

    private static Call answerOf(State state, String name, ToLongFunction<TileLog> on) {
        return new Call(name, on, on.applyAsLong(inState(state)));
    }

    private static List<Call> callsThatOnlyAnswer(State state) {
        List<Call> calls = new ArrayList<>();
        calls.add(answerOf(state, "writes()", TileLog::writes));
        calls.add(answerOf(state, "length()", TileLog::length));
        calls.add(answerOf(state, "size(1)", log -> log.size(1)));
        calls.add(answerOf(state, "root(1)", log -> log.root(1)));
        calls.add(answerOf(state, "latest()", TileLog::latest));
        calls.add(answerOf(state, "tile(0, 0, 0)", log -> log.tile(0, 0, 0)));
        calls.add(answerOf(state, "tile(1, 0, 0)", log -> log.tile(1, 0, 0)));
        calls.add(answerOf(state, "entry(0)", log -> log.entry(0)));
        calls.add(answerOf(state, "find(100)", log -> log.find(100)));
        calls.add(answerOf(state, "rootOf(9)", log -> log.rootOf(9)));
        calls.add(answerOf(state, "proof(0)", log -> log.proof(0)));
        calls.add(answerOf(state, "shows", log -> bit(log.shows(5, 0, 8, offered(OFFERED)))));
        calls.add(answerOf(state, "leads", log -> bit(log.leads(1, 8, Reference.leaf(5), offered(OFFERED)))));
        return calls;
    }

    // ---- telling two logs apart

    private static long offered(int length) {
        long r = Reference.leaf(5);
        for (int i = 0; i < length; i++) {
            r = Reference.node(r, 40 + i);
        }
        return r;
    }

    private static void changesNothing(State state, List<Call> calls) {
        for (Call call : calls) {
            changesNothing(state, call);
        }
    }

    private static void changesNothing(State state, Call call) {
        TileLog called = inState(state);
        String name = state.name() + ": " + call.name();
        Check.due(name, call.on().applyAsLong(called), call.due());
        TileLog untouched = inState(state);
        Check.due(name + " changed what can be seen", seen(called).equals(seen(untouched)), true);
        Check.due(name + " changed what comes", coming(called).equals(coming(untouched)), true);
    }

    private static List<Long> seen(TileLog log) {
        List<Long> seen = new ArrayList<>();
        seen.add((long) log.writes());
        seen.add((long) log.length());
        seen.add((long) log.latest());
        for (int place = 0; place < 2; place++) {
            seen.add((long) log.size(place));
            seen.add(log.root(place));
        }
        for (int i = 0; i < 64; i++) {
            seen.add(log.entry(i));
            seen.add(log.tile(0, i / 8, i % 8));
        }
        for (int i = 0; i < 8; i++) {
            seen.add(log.tile(1, 0, i));
            seen.add(log.proof(i));
        }
        seen.add(log.rootOf(9));
        Check.due("the offer's length stays", log.shows(5, 0, 1 << OFFERED, offered(OFFERED)), true);
        log.offers(8);
        Check.due("the offer's hashes stay", log.shows(5, 0, 256, offered(8)), true);
        return seen;
    }

    /** Answers that tell when an ordered crash comes, and what recovery and publishing find. */
    private static List<Long> coming(TileLog log) {
        List<Long> coming = new ArrayList<>();
        for (int round = 0; round < 3; round++) {
            coming.add((long) log.recover());
            coming.add((long) log.publish());
            coming.add((long) log.writes());
            for (int i = 0; i < 10; i++) {
                coming.add((long) log.append(i));
            }
        }
        coming.add((long) log.recover());
        coming.add((long) log.publish());
        coming.add((long) log.latest());
        coming.add((long) log.writes());
        return coming;
    }

    private RefusedTest() { }
}
