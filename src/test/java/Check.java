/** Counts what is not as due; a test's main method ends with finish(). */
final class Check {
    interface Call {
        long run();
    }

    private static int checks = 0;
    private static int wrong = 0;
    private static int sentences = 0;
    private static int checksBefore = 0;
    private static String sentence = "";

    private Check() {
    }

    /** The sentence of the document that the checks behind it are about; it needs one at least. */
    static void says(String next) {
        closeSentence();
        sentences++;
        sentence = next;
    }

    private static void closeSentence() {
        if (!sentence.isEmpty() && checks == checksBefore) {
            tellWrong("no check");
        }
        checksBefore = checks;
    }

    private static void tellWrong(String what) {
        wrong++;
        System.out.println(sentence.isEmpty() ? what : "\"" + sentence + "\": " + what);
    }

    static void due(String what, long got, long want) {
        checks++;
        if (got != want) {
            tellWrong(what + " answered " + got + ", due is " + want);
        }
    }

    static void same(String what, String got, String want) {
        checks++;
        if (!got.equals(want)) {
            tellWrong(what + ": got " + got + ", due is " + want);
        }
    }

    static void noIndex(String what, Call call) {
        same(what, Outcome.of(call), "IndexOutOfBoundsException");
    }

    static void noArgument(String what, Call call) {
        same(what, Outcome.of(call), "IllegalArgumentException");
    }

    static void noState(String what, Call call) {
        same(what, Outcome.of(call), "IllegalStateException");
    }

    static void finish(String test) {
        closeSentence();
        String all = sentences == 0 ? "" : sentences + " sentences, ";
        System.out.println(test + ": " + all + checks + " checks, " + wrong + " not as due");
        if (wrong != 0 || checks == 0) {
            System.exit(1);
        }
    }
}
