/** Whether a call leaves all as it was. To look takes most of an object's 512 calls, so each look has its own one. */
final class Unchanged {
    interface Make {
        SparePool pool();
    }

    interface Act {
        long on(SparePool pool);
    }

    private Unchanged() {
    }

    static void noIndex(String what, Make make, Act act) {
        refused("IndexOutOfBoundsException", what, make, act);
    }

    static void noArgument(String what, Make make, Act act) {
        refused("IllegalArgumentException", what, make, act);
    }

    static void noState(String what, Make make, Act act) {
        refused("IllegalStateException", what, make, act);
    }

    private static void refused(String exception, String what, Make make, Act act) {
        SparePool pool = make.pool();
        Check.same(what, Outcome.of(() -> act.on(pool)), exception);
        by(what, make, act);
    }

    /** A call, refused or not, that may change nothing. */
    static void by(String what, Make make, Act act) {
        Check.same(what + " leaves the state", Look.at(after(make, act)), Look.at(make.pool()));
        Check.same(what + " leaves the rest", rest(after(make, act)), rest(make.pool()));
    }

    private static SparePool after(Make make, Act act) {
        SparePool pool = make.pool();
        Outcome.of(() -> act.on(pool));
        return pool;
    }

    /** What is behind the state: the text, what is remembered, what is saved. */
    private static String rest(SparePool pool) {
        StringBuilder seen = new StringBuilder();
        seen.append("error ").append(pool.errorPosition());
        for (int i = 0; i <= 14; i++) {
            seen.append(" | undo ").append(Outcome.of(() -> pool.undo())).append(digest(pool));
        }
        for (int slot = 0; slot <= 1; slot++) {
            int which = slot;
            seen.append(" | restore ").append(Outcome.of(() -> pool.restore(which))).append(digest(pool));
        }
        seen.append(" | load ").append(Outcome.of(() -> pool.load())).append(digest(pool));
        return seen.append(" | length ").append(pool.clearText()).toString();
    }

    private static String digest(SparePool pool) {
        StringBuilder seen = new StringBuilder(":");
        for (int what = 0; what <= 9; what++) {
            seen.append(' ').append(pool.about(what));
        }
        for (int h = 0; h <= 4; h++) {
            seen.append(' ').append(pool.holder(h, 0)).append('/').append(pool.holder(h, 2));
        }
        return seen.append(' ').append(pool.setting(1)).toString();
    }
}
