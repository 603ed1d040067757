/** Counts what is not as due; a test's main method ends with finish(). */
final class Check {
    interface Call {
        long run();
    }

    private static int checks = 0;
    private static int wrong = 0;

    private Check() {
    }

    static void due(String what, long got, long want) {
        checks++;
        if (got != want) {
            wrong++;
            System.out.println(what + " answered " + got + ", due is " + want);
        }
    }

    static void same(String what, String got, String want) {
        checks++;
        if (!got.equals(want)) {
            wrong++;
            System.out.println(what + ": got " + got + ", due is " + want);
        }
    }

    static void noIndex(String what, Call call) {
        same(what, Outcome.of(call), "IndexOutOfBoundsException");
    }

    static void noArgument(String what, Call call) {
        same(what, Outcome.of(call), "IllegalArgumentException");
    }

    static void noState(String what, Call call) {
        same(what, Outcome.of(call), "IllegalStateException");
    }

    static void finish(String test) {
        System.out.println(test + ": " + checks + " checks, " + wrong + " not as due");
        if (wrong != 0 || checks == 0) {
            System.exit(1);
        }
    }
}
