import java.io.IOException;
import java.nio.file.Files;
import java.nio.file.Path;
import java.util.List;

/** The example in README.md, line by line: each line stands there, and answers what it says. */
final class ReadmeTest {
    private static int next = 0;
    private static List<String> lines = List.of();

    public static void main(String[] args) throws IOException {
        List<String> all = Files.readAllLines(Path.of("README.md"));
        int from = all.indexOf("```java") + 1;
        lines = all.subList(from, from + all.subList(from, all.size()).indexOf("```"));
        TileLog log = new TileLog();
        long first = entries(log);
        long second = goingOn(log, first);
        Check.due("the roots are not the same", first == second, false);
        crash(log);
        told("", "none", 0);
        Check.end();
    }

    private static long entries(TileLog log) {
        told("log.append(5);", "0", log.append(5));
        told("log.append(-3);", "1", log.append(-3));
        told("log.publish();", "1", log.publish());
        long first = log.root(1);
        int hashes = log.include(1, 2);
        told("int hashes = log.include(1, 2);", "1", hashes);
        offerProof(log, hashes);
        told("log.shows(-3, 1, 2, first);", "true", log.shows(-3, 1, 2, first) ? 1 : 0);
        told("log.shows(-4, 1, 2, first);", "false", log.shows(-4, 1, 2, first) ? 1 : 0);
        return first;
    }

    private static long goingOn(TileLog log, long first) {
        told("log.append(8);", "2", log.append(8));
        told("log.publish();", "2", log.publish());
        long second = log.root(0);
        int hashes = log.extend(2, 3);
        told("hashes = log.extend(2, 3);", "1", hashes);
        offerProof(log, hashes);
        told("log.leads(2, 3, first, second);", "true", log.leads(2, 3, first, second) ? 1 : 0);
        told("log.leads(2, 3, second, first);", "false", log.leads(2, 3, second, first) ? 1 : 0);
        return second;
    }

    private static void crash(TileLog log) {
        told("log.order(0);", "true", log.order(0) ? 1 : 0);
        told("log.append(9);", "CRASHED", log.append(9));
        told("log.append(9);", "DOWN", log.append(9));
        told("log.recover();", "3", log.recover());
        told("log.append(9);", "3", log.append(9));
        told("log.find(9);", "NONE", log.find(9));
    }

    private static void offerProof(TileLog log, int hashes) {
        for (int i = 0; i < hashes; i++) {
            log.offer(i, log.proof(i));
        }
        log.offers(hashes);
    }

    /** The next line of the example that tells an answer is this call with this answer. */
    private static void told(String call, String answer, long got) {
        String line = nextTold();
        int comment = line.indexOf("//");
        String toldCall = comment < 0 ? "" : line.substring(0, comment).trim();
        Check.due("README.md tells " + call + " here, not " + toldCall, toldCall.equals(call), true);
        String toldAnswer = comment < 0 ? "none" : line.substring(comment + 2).trim().split(":")[0];
        Check.due("README.md tells " + answer + " for " + call, toldAnswer.equals(answer), true);
        Check.due(call, got, value(answer));
    }

    private static String nextTold() {
        while (next < lines.size()) {
            String line = lines.get(next);
            next++;
            if (isAnswer(line)) {
                return line;
            }
        }
        return "";
    }

    /** Not every comment of the example tells an answer. */
    private static boolean isAnswer(String line) {
        return line.matches(".*// (-?\\d+|true|false|NONE|DOWN|CRASHED)(:.*)?");
    }

    private static long value(String answer) {
        switch (answer) {
            case "NONE":
                return TileLog.NONE;
            case "DOWN":
                return TileLog.DOWN;
            case "CRASHED":
                return TileLog.CRASHED;
            case "true":
                return 1;
            case "false":
            case "none":
                return 0;
            default:
                return Long.parseLong(answer);
        }
    }

    private ReadmeTest() { }
}
