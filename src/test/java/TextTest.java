/** Promises 2 to 5: append, clearText, errorPosition, load. */
public final class TextTest {
    public static void main(String[] args) {
        appendCountsUpTo120();
        clearTextTellsTheLengthBefore();
        errorPositions();
        textsThatArePools();
        everySignAtEveryPlace();
        loadDoesTheCommands();
        loadLeavesOutWhatWouldThrow();
        loadMakesAllNew();
        loadOfNoPoolChangesNothing();
        Check.finish("TextTest");
    }

    private static SparePool with(String text) {
        SparePool pool = new SparePool();
        write(pool, text);
        return pool;
    }

    private static void write(SparePool pool, String text) {
        for (int i = 0; i < text.length(); i++) {
            Check.due("append " + text.charAt(i), pool.append(text.charAt(i)), i + 1);
        }
    }

    private static void appendCountsUpTo120() {
        SparePool pool = new SparePool();
        Check.noArgument("append(-1)", () -> pool.append(-1));
        Check.noArgument("append(256)", () -> pool.append(256));
        Check.due("append(0)", pool.append(0), 1);
        Check.due("append(255)", pool.append(255), 2);
        for (int i = 3; i <= 120; i++) {
            Check.due("append", pool.append('U'), i);
        }
        Check.noState("append to 120", () -> pool.append('U'));
        Check.noArgument("append(256) to 120", () -> pool.append(256));
        Check.noArgument("append(min) to 120", () -> pool.append(Integer.MIN_VALUE));
        Check.due("length", pool.clearText(), 120);
    }

    private static void clearTextTellsTheLengthBefore() {
        SparePool pool = new SparePool();
        Check.due("clearText of none", pool.clearText(), 0);
        write(pool, "Ud1");
        Check.due("clearText", pool.clearText(), 3);
        Check.due("clearText again", pool.clearText(), 0);
        Check.due("append after", pool.append('U'), 1);
        Check.due("what was there is gone", pool.errorPosition(), -1);
    }

    private static void error(String text, int want) {
        Check.due("error of '" + text + "'", with(text).errorPosition(), want);
    }

    private static void errorPositions() {
        error("", 0);
        error("u", 0);
        error(" U", 0);
        error("UU", 1);
        error("U d1", 1);
        error("Uq", 1);
        error("U0", 1);
        error("UN047", 1);
        error("Un", 2);
        error("Un3", 2);
        error("Un0", 3);
        error("Un05", 3);
        error("Un04", 4);
        error("Un048", 4);
        error("Un0/", 3);
        error("Un0:", 3);
        error("Ul2", 2);
        error("Ul16", 3);
        error("Ul19", 3);
        error("Ul155", 4);
        error("Ul1", 3);
        error("Ul15", 4);
        error("Ul095", 4);
        error("Ul094", 5);
        error("Ul0940", 6);
        error("Ul09400", 6);
        error("Ul0944", 5);
        error("Ul09431", 6);
        error("Ul09439", 6);
        error("Ur2", 2);
        error("Ur16", 3);
        error("Ur1", 3);
        error("Ur1n", 3);
        error("Ux0", 3);
        error("Ux00", 4);
        error("Ux002", 4);
        error("Ux0016", 5);
        error("Ux20", 2);
        error("Ut1500", 6);
        error("Ut15003", 6);
        error("Ut15163", 5);
        error("Ud", 2);
        error("Ud0", 2);
        error("Ud9d", 4);
        error("Ud9 ", 3);
        error("Ud1d1x00n", 8);
    }

    private static void textsThatArePools() {
        error("U", -1);
        error("Un047", -1);
        error("Un240", -1);
        error("Ul00001", -1);
        error("Ul15430", -1);
        error("Ul15429", -1);
        error("Ul09010", -1);
        error("Ur00r15r09r10", -1);
        error("Ux0015x1500", -1);
        error("Ut15092", -1);
        error("Ud1d9", -1);
        error("U" + "n000".repeat(29), -1);
        error("U" + "n000".repeat(29) + "n00", 120);
    }

    /** Each sign in turn at a place that allows just some. */
    private static void everySignAtEveryPlace() {
        everySign("Un", 2, "012");
        everySign("Un0", 3, "01234");
        everySign("Un00", 4, "01234567");
        everySign("Ul", 2, "01");
        everySign("Ul0", 3, "0123456789");
        everySign("Ul1", 3, "012345");
        everySign("Ul00", 4, "01234");
        everySign("Ul000", 5, "0123");
        everySign("Ul0000", 6, "123456789");
        everySign("Ul0001", 6, "0123456789");
        everySign("Ul0002", 6, "0123456789");
        everySign("Ul0003", 6, "0");
        everySign("Ux00", 4, "01");
        everySign("Ut00001", 7, "ltrxnd");
        everySign("Ut0000", 6, "012");
        everySign("Ud", 2, "123456789");
        everySign("U", 1, "nlrxtd");
        everySign("", 0, "U");
    }

    private static void everySign(String before, int place, String allowed) {
        for (int c = 0; c <= 255; c++) {
            SparePool pool = with(before);
            pool.append(c);
            boolean isError = pool.errorPosition() == place;
            Check.due("sign " + c + " behind " + before, isError ? 1 : 0, allowed.indexOf(c) >= 0 ? 0 : 1);
        }
    }

    private static void loadDoesTheCommands() {
        SparePool pool = with("Un137n217l01305d7r01n106n147x0203d1n127n015t01040n210d3");
        Check.due("a pool", pool.errorPosition(), -1);
        // Left out: t01040 alone, whose units are of different kinds.
        Check.due("load", pool.load(), 1);
        SparePool calls = new SparePool();
        calls.come(1, 3, 7);
        calls.come(2, 1, 7);
        calls.lend(1, 3, 5);
        calls.days(7);
        calls.bring(1);
        calls.come(1, 0, 6);
        calls.come(1, 4, 7);
        calls.exchange(2, 3);
        calls.days(1);
        calls.come(1, 2, 7);
        calls.come(0, 1, 5);
        calls.come(2, 1, 0);
        calls.days(3);
        Check.same("loaded", Look.at(pool), Look.at(calls));
        Check.due("late fee paid", calls.holder(3, 0), -10);

        SparePool taken = with("Un107n011n010t01020t00011");
        Check.due("load with t", taken.load(), 1);
        Check.due("part taken", taken.unit(2, 3), 1);
        Check.due("part lost", taken.unit(1, 3), 0);
        Check.due("kept text", taken.clearText(), 25);
    }

    private static void loadLeavesOutWhatWouldThrow() {
        SparePool pool = with("Ur00l00101x0001t00010n047l00401r00l00101l00201d9");
        // r00, l00101, x0001 and t00010 without units; l00401 to its owner; r00 is free; l00201 on loan.
        Check.due("load", pool.load(), 7);
        Check.due("lent", pool.unit(0, 2), 1);
        Check.due("due", pool.unit(0, 4), 1);
        Check.due("fees", pool.unit(0, 5), 40);
        SparePool full = with("U" + "n047".repeat(17));
        Check.due("load of 17", full.load(), 1);
        Check.due("units", full.about(1), 16);
        Check.due("load of U", with("U").load(), 0);
    }

    private static void loadMakesAllNew() {
        SparePool pool = with("Un000");
        pool.come(0, 4, 7);
        pool.come(0, 4, 7);
        pool.come(0, 1, 2);
        pool.set(0, 9);
        pool.set(1, 8);
        pool.set(2, 7);
        pool.advance(1, 0, 3);
        pool.exchange(2, 1);
        pool.lend(0, 2, 1);
        pool.come(0, 2, 1);
        pool.take(0, 3, 1);
        pool.come(0, 4, 7);
        pool.come(0, 4, 7);
        pool.come(0, 0, 0);
        pool.exchange(6, 4);
        pool.advance(0, 5, 9);
        pool.come(0, 0, 1);
        pool.lend(7, 2, 1);
        Check.due("0 owes a part", pool.take(0, 7, 2), 1);
        pool.buy(3, 2);
        pool.days(9);
        pool.save(0);
        pool.save(1);
        Check.due("load", pool.load(), 0);
        Check.noState("nothing remembered", () -> pool.undo());
        Check.noState("slot 0 is empty", () -> pool.restore(0));
        Check.noState("slot 1 is empty", () -> pool.restore(1));
        SparePool one = new SparePool();
        one.come(0, 0, 0);
        Check.same("all new", Look.at(pool), Look.at(one));
        Check.due("load again", pool.load(), 0);
        Check.due("one unit", pool.about(1), 1);
        Check.due("text is kept", pool.clearText(), 5);
    }

    private static void loadOfNoPoolChangesNothing() {
        for (String text : new String[] {"", "Un04", "Un047d", "X"}) {
            SparePool pool = with(text);
            pool.come(2, 3, 5);
            pool.save(1);
            pool.days(4);
            Check.noState("load of '" + text + "'", () -> pool.load());
            Check.due("today", pool.about(0), 4);
            Check.due("units", pool.about(1), 1);
            Check.due("still remembered", pool.undo(), 1);
            Check.due("still saved", pool.restore(1), 1);
            Check.due("text", pool.clearText(), text.length());
        }
    }
}
