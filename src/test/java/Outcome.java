/** What a call answered or threw, as a text. */
final class Outcome {
    private Outcome() {
    }

    /** The exception's own class counts: one below it would be the machine's. */
    static String of(Check.Call call) {
        try {
            return Long.toString(call.run());
        } catch (RuntimeException e) {
            return e.getClass().getSimpleName();
        }
    }
}
