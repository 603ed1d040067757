/** Promises 2 to 5 and the terms of the text, sentence by sentence. */
public final class TextEdgeTest {
    public static void main(String[] args) {
        appendTakes0To255();
        appendUpTo120();
        clearText();
        errorOfWhatIsNoPool();
        eachField();
        noBlanks();
        tooSoon();
        theFullText();
        loadOfNoPool();
        loadMakesAllNew();
        loadCountsWhatIsLeftOut();
        loadIsNoAction();
        Check.finish("TextEdgeTest");
    }

    private static void appendTakes0To255() {
        Check.says("c: character code, 0 to 255. Throws IllegalArgumentException if c is out of range");
        SparePool pool = new SparePool();
        Check.due("append(0)", pool.append(0), 1);
        Check.due("append(255)", pool.append(255), 2);
        int[] wrong = {-1, 256, 'U' + 256, 'U' - 256, 'U' + 65536, Integer.MIN_VALUE, Integer.MAX_VALUE};
        for (int c : wrong) {
            Unchanged.noArgument("append(" + c + ")", Pools::busy, x -> x.append(c));
            Unchanged.noArgument("append(" + c + ") to none", SparePool::new, x -> x.append(c));
        }

        Check.says("Appends a character to the text buffer");
        for (int c = 0; c <= 255; c++) {
            SparePool each = new SparePool();
            Check.due("append(" + c + ")", each.append(c), 1);
            Check.due("error behind " + c, each.errorPosition(), c == 'U' ? -1 : 0);
        }
        SparePool words = Pools.text("Ud");
        Check.due("a half", words.errorPosition(), 2);
        words.append('7');
        Check.due("a pool", words.errorPosition(), -1);
    }

    private static SparePool long119() {
        return Pools.text("U" + "d1".repeat(59));
    }

    private static SparePool long120() {
        SparePool pool = long119();
        pool.append('d');
        pool.days(3);
        return pool;
    }

    private static void appendUpTo120() {
        Check.says("The object has a text buffer of at most 120 characters. Returns the new length of the text");
        SparePool pool = new SparePool();
        for (int i = 1; i <= 120; i++) {
            Check.due("append", pool.append('d'), i);
        }
        Check.due("the 120th of 119", long119().append('x'), 120);

        Check.says("Throws IllegalStateException if the text already has 120 characters");
        Unchanged.noState("the 121st", TextEdgeTest::long120, x -> x.append('1'));
        Unchanged.noState("a 0 as the 121st", TextEdgeTest::long120, x -> x.append(0));
        Unchanged.noState("a 255 as the 121st", TextEdgeTest::long120, x -> x.append(255));

        Check.says("the one that its description names first is thrown (append)");
        Unchanged.noArgument("-1 as the 121st", TextEdgeTest::long120, x -> x.append(-1));
        Unchanged.noArgument("256 as the 121st", TextEdgeTest::long120, x -> x.append(256));
    }

    private static void clearText() {
        Check.says("Empties the text buffer. Returns the previous length of the text");
        for (int length = 0; length <= 120; length++) {
            SparePool pool = Pools.text("U".repeat(length));
            Check.due("clearText", pool.clearText(), length);
            Check.due("empty", pool.errorPosition(), 0);
            Check.due("clearText again", pool.clearText(), 0);
        }
        SparePool pool = long120();
        pool.clearText();
        for (int i = 1; i <= 120; i++) {
            Check.due("append again", pool.append('U'), i);
        }
        Check.due("the new text", pool.errorPosition(), 1);
    }

    private static void error(String text, int want) {
        Check.due("error of '" + text + "'", Pools.text(text).errorPosition(), want);
    }

    private static void errorOfWhatIsNoPool() {
        Check.says("A pool as a text is U, and then any number of commands");
        error("", 0);
        error("U", -1);
        error("u", 0);
        error("V", 0);
        error("d1", 0);
        error("UU", 1);
        error("Ud1U", 3);
        for (int c = 0; c <= 255; c++) {
            boolean begins = "nlrxtd".indexOf(c) >= 0;
            error("U" + (char) c, begins ? 2 : 1);
            error("Ud1" + (char) c, begins ? 4 : 3);
        }
        String[] commands = {"n000", "l00001", "r00", "x0000", "t00000", "d1"};
        for (String one : commands) {
            error("U" + one, -1);
            for (String other : commands) {
                error("U" + one + other, -1);
                error("U" + one + other + one, -1);
            }
        }
        error("U" + "d1".repeat(59), -1);

        Check.says("Returns the error position of the text; NONE if it is a pool");
        Unchanged.by("errorPosition", Pools::busy, SparePool::errorPosition);
        Unchanged.by("errorPosition of a half", TextEdgeTest::long120, SparePool::errorPosition);
    }

    private static void eachField() {
        Check.says("n, a digit for a kind (0 to 2), one for an owner (0 to 4), and one for its parts (0 to 7)");
        field("n", 1, 0, 2, "00");
        field("n0", 1, 0, 4, "0");
        field("n00", 1, 0, 7, "");
        field("n2", 1, 0, 4, "7");
        field("n24", 1, 0, 7, "");

        Check.says("l, two digits for a unit (00 to 15), one for a holder, and two for days (01 to 30)");
        field("l", 2, 0, 15, "001");
        field("l15", 1, 0, 4, "30");
        field("l000", 2, 1, 30, "");
        field("l154", 2, 1, 30, "");

        Check.says("r and two digits for a unit");
        field("r", 2, 0, 15, "");

        Check.says("x and twice two digits for units");
        field("x", 2, 0, 15, "00");
        field("x15", 2, 0, 15, "");

        Check.says("t, twice two digits for units, and one for a part (0 to 2)");
        field("t", 2, 0, 15, "000");
        field("t15", 2, 0, 15, "2");
        field("t1515", 1, 0, 2, "");

        Check.says("d and a digit (1 to 9): so many days");
        field("d", 1, 1, 9, "");
    }

    /**
     * All signs at the places of one number; "a digit is not allowed if no number that is allowed begins with it and
     * those before it".
     */
    private static void field(String before, int digits, int least, int most, String behind) {
        int at = 1 + before.length();
        StringBuilder allowed = new StringBuilder(" ");
        for (int number = least; number <= most; number++) {
            String written = digits == 2 && number < 10 ? "0" + number : "" + number;
            allowed.append(written).append(' ');
            error("U" + before + written + behind, -1);
            error("U" + before + written + behind + "d5", -1);
        }
        for (int c = 0; c <= 255; c++) {
            boolean begins = c != ' ' && allowed.indexOf(" " + (char) c) >= 0;
            SparePool pool = Pools.text("U" + before);
            pool.append(c);
            boolean isError = pool.errorPosition() == at;
            Check.due("sign " + c + " behind " + before, isError ? 1 : 0, begins ? 0 : 1);
            for (char tens = '0'; digits == 2 && tens <= '3'; tens++) {
                secondDigit(before, tens, c, allowed.toString());
            }
        }
    }

    private static void secondDigit(String before, char tens, int c, String allowed) {
        int at = 1 + before.length();
        if (allowed.indexOf(" " + tens) < 0) {
            error("U" + before + tens + (char) c, at);
        } else {
            boolean ends = c != ' ' && allowed.indexOf(" " + tens + (char) c + " ") >= 0;
            SparePool pool = Pools.text("U" + before + tens);
            pool.append(c);
            boolean isError = pool.errorPosition() == at + 1;
            Check.due("sign " + c + " behind " + before + tens, isError ? 1 : 0, ends ? 0 : 1);
        }
    }

    private static final String EVERY_COMMAND = "Un247l15430r15x1500t15092d9";

    private static void noBlanks() {
        Check.says("There are no blanks");
        for (int at = 0; at <= EVERY_COMMAND.length(); at++) {
            error(EVERY_COMMAND.substring(0, at) + " " + EVERY_COMMAND.substring(at), at);
            error(EVERY_COMMAND.substring(0, at) + "\n" + EVERY_COMMAND.substring(at), at);
            error(EVERY_COMMAND.substring(0, at) + (char) 0 + EVERY_COMMAND.substring(at), at);
        }

        Check.says("The error position is the index of the first character that these rules do not allow at its place");
        error("Uq?", 1);
        error("Un3n3", 2);
        error("Ur16d0", 3);
        error("Ud0d0", 2);
        error("d0", 0);
        error("Un000!Un", 5);
    }

    private static void tooSoon() {
        Check.says("if the text ends too soon, it is the length of the text");
        error("", 0);
        for (int length = 1; length <= EVERY_COMMAND.length(); length++) {
            boolean whole = length == 1 || length == 5 || length == 11 || length == 14 || length == 19 || length == 25
                    || length == 27;
            error(EVERY_COMMAND.substring(0, length), whole ? -1 : length);
        }
    }

    private static void theFullText() {
        Check.says("a text buffer of at most 120 characters (a full one)");
        String whole = "U" + "n000".repeat(28) + "l00001";
        error(whole, -1);
        error(whole + "d", 120);
        String full = "U" + "n000".repeat(27) + "l00001" + "x0000";
        Check.due("length", full.length(), 120);
        error(full, -1);
        error(full.substring(0, 119), 119);
        error(full.substring(0, 119) + "x", 119);
        error(full.substring(0, 119) + ":", 119);
        error("x".repeat(120), 0);
        error("U" + "d9".repeat(59) + "d", 120);
        error("U" + "d9".repeat(59) + "9", 119);
        SparePool pool = Pools.text(full);
        // 16 of 27 units come; unit 0 is not lent to its owner, and not the pool's.
        Check.due("load", pool.load(), 13);
        Check.due("units", pool.about(1), 16);
        SparePool days = Pools.text("U" + "d9".repeat(59));
        Check.due("load of days", days.load(), 0);
        Check.due("today", days.about(0), 9 * 59);
    }

    private static void loadOfNoPool() {
        Check.says("Throws IllegalStateException if the text is not a pool");
        String[] texts = {"", "u", "Ud", "Ud0", "Un047 ", "Un047r16", "Un047n04", "UU"};
        for (String text : texts) {
            Unchanged.noState("load of '" + text + "'", () -> busyWith(text), SparePool::load);
            Unchanged.noState("load of '" + text + "' in a new one", () -> Pools.text(text), SparePool::load);
        }
        Unchanged.noState("load of a full one", TextEdgeTest::long120, SparePool::load);
    }

    private static SparePool busyWith(String text) {
        SparePool pool = Pools.busy();
        pool.clearText();
        Pools.write(pool, text);
        return pool;
    }

    private static void loadMakesAllNew() {
        Check.says("Makes everything as in a new object, and then does the commands of the text");
        SparePool nothing = busyWith("U");
        Check.due("load of no commands", nothing.load(), 0);
        Check.same("as in a new object", Look.at(nothing), Look.at(new SparePool()));
        SparePool one = busyWith("Un233");
        Check.due("load of a unit", one.load(), 0);
        Check.same("one unit", Look.at(one), Look.at(Pools.with(233)));
        for (int h = 0; h <= 4; h++) {
            SparePool owing = Pools.text("U");
            int other = h == 0 ? 1 : 0;
            owing.come(0, 4, 7);
            owing.come(0, h, 0);
            owing.come(0, other, 7);
            int to = h;
            Outcome.of(() -> owing.advance(to, 0, 9));
            owing.lend(2, h, 9);
            owing.take(2, 1, 0);
            owing.buy(1, 1);
            Check.due("load", owing.load(), 0);
            Check.same("nothing of what " + h + " owed", Look.at(owing), Look.at(new SparePool()));
        }
        SparePool set = Pools.text("U");
        set.set(0, 0);
        set.set(1, 0);
        set.set(2, 0);
        set.load();
        Check.due("late fee", set.setting(0), 5);
        Check.due("exchange", set.setting(1), 100);
        Check.due("part", set.setting(2), 20);

        Check.says("Behind it no state is remembered, and both save slots are empty");
        SparePool pool = busyWith("Un233d9");
        pool.save(1);
        pool.load();
        Check.noState("undo", () -> pool.undo());
        Check.noState("restore(0)", () -> pool.restore(0));
        Check.noState("restore(1)", () -> pool.restore(1));
        Check.due("the next action", pool.days(1), 10);
        Check.due("is remembered alone", pool.undo(), 0);
        Check.due("today", pool.about(0), 9);

        Check.says("Keeps the text");
        Check.due("load again", pool.load(), 0);
        Check.due("errorPosition", pool.errorPosition(), -1);
        Check.due("length", pool.clearText(), 7);
        Pools.write(pool, "U");
        Check.due("load of the next text", pool.load(), 0);
        Check.due("units", pool.about(1), 0);
    }

    private static void leftOut(String commands, int want) {
        Check.due("left out of " + commands, Pools.text("U" + commands).load(), want);
    }

    private static void loadCountsWhatIsLeftOut() {
        Check.says("Commands that would throw an exception are left out. Returns the number of commands that are left "
                + "out");
        leftOut("", 0);
        leftOut("n000".repeat(16), 0);
        leftOut("n000".repeat(17), 1);
        leftOut("n000".repeat(29), 13);
        leftOut("l00101", 1);
        leftOut("n007l01101", 1);
        leftOut("n007l00101", 0);
        leftOut("n007l00001", 1);
        leftOut("n007l00101l00201", 1);
        leftOut("n000".repeat(16) + "l15130", 0);
        leftOut("r00", 1);
        leftOut("n007r00", 1);
        leftOut("n007l00101r00", 0);
        leftOut("n007l00101r00r00", 1);
        leftOut("x0000", 1);
        leftOut("n000n047x0001", 0);
        leftOut("n000n047x0002", 1);
        leftOut("n000n047x0100", 1);
        leftOut("n000n046x0001", 1);
        leftOut("n000n147x0001", 1);
        leftOut("n000n017x0001", 1);
        leftOut("n000n047l00101x0001", 1);
        leftOut("n000n047l01101x0001", 1);
        leftOut("t00000", 1);
        leftOut("n001n000t00010", 0);
        leftOut("n001n000t00012", 1);
        leftOut("n001n001t00010", 1);
        leftOut("n001n010t00010", 1);
        leftOut("n001n100t00010", 1);
        leftOut("d1d9", 0);
        leftOut("r00".repeat(39), 39);
        SparePool pool = Pools.text("Ul00101n011d9l00205r01d3");
        Check.due("two", pool.load(), 2);
        Check.due("the others are done: a unit", pool.unit(0, 2), 2);
        Check.due("its due day", pool.unit(0, 4), 14);
        Check.due("today", pool.about(0), 12);
    }

    private static void loadIsNoAction() {
        Check.says("load and restore are not actions (load)");
        SparePool pool = Pools.text("Ud1");
        pool.load();
        Check.noState("undo behind load", () -> pool.undo());
        pool.load();
        pool.load();
        Check.noState("undo behind more", () -> pool.undo());
    }
}
