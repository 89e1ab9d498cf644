/** Counts and prints the answers that are not the ones that are due. */
final class Check {
    private static int wrong = 0;
    private static int asked = 0;
    private static int sentences = 0;
    private static String sentence = "";

    private Check() { }

    /** What is asked from here on stands for these words of the document. */
    static void sentence(String where, String words) {
        sentences++;
        sentence = where + ", \"" + words + "\": ";
    }

    static void due(String call, long got, long want) {
        asked++;
        if (got != want) {
            wrong++;
            System.out.println(sentence + call + " answered " + got + ", due is " + want);
        }
    }

    static void due(String call, boolean got, boolean want) {
        due(call, got ? 1 : 0, want ? 1 : 0);
    }

    static int wrongSoFar() {
        return wrong;
    }

    /** The last line of every test's main method. */
    static void end() {
        String told = sentences == 0 ? "" : sentences + " sentences, ";
        System.out.println(told + asked + " answers, " + wrong + " of them not as due");
        if (wrong != 0) {
            System.exit(1);
        }
    }
}
