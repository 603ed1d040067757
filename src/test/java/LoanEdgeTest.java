/** Promises 12 to 14, come, lend and bring, sentence by sentence. */
public final class LoanEdgeTest {
    private static final int MIN = Integer.MIN_VALUE;
    private static final int MAX = Integer.MAX_VALUE;
    private static final int[] NO_HOLDER = {-1, 5, MIN, MAX};
    private static final int[] NO_UNIT = {-1, 9, 15, 16, MIN, MAX};
    private static final int[] NO_TERM = {-1, 0, 31, MIN, MAX};

    public static void main(String[] args) {
        comeWhich();
        comeUpTo16();
        comeFirstThings();
        comeReturns();
        lendWhich();
        lendHowLong();
        lendWhatIsFree();
        lendFirstThings();
        bringWhich();
        bringWhatIsOnLoan();
        bringReturns();
        Check.finish("LoanEdgeTest");
    }

    private static void comeWhich() {
        Check.says("Throws IndexOutOfBoundsException if there is no such kind or holder (come)");
        int[] noKind = {-1, 3, MIN, MAX};
        for (int kind : noKind) {
            Unchanged.noIndex("kind " + kind, Pools::busy, x -> x.come(kind, 0, 7));
        }
        for (int h : NO_HOLDER) {
            Unchanged.noIndex("holder " + h, Pools::busy, x -> x.come(0, h, 7));
        }
        for (int kind = 0; kind <= 2; kind++) {
            for (int h = 0; h <= 4; h++) {
                Check.due("the 10th", Pools.busy().come(kind, h, 7), 9);
            }
        }

        Check.says("parts: 0 to 7. Throws IllegalArgumentException if parts is out of range");
        int[] noParts = {-1, 8, 15, MIN, MAX};
        for (int parts : noParts) {
            Unchanged.noArgument("parts " + parts, Pools::busy, x -> x.come(0, 0, parts));
        }
        for (int parts = 0; parts <= 7; parts++) {
            SparePool pool = Pools.busy();
            Check.due("parts", pool.unit(pool.come(0, 0, parts), 3), parts);
        }
    }

    private static SparePool full() {
        SparePool pool = Pools.busy();
        for (int u = 9; u < 16; u++) {
            pool.come(2, 3, 0);
        }
        return pool;
    }

    private static void comeUpTo16() {
        Check.says("Throws IllegalStateException if there are 16");
        Unchanged.noState("a 17th", LoanEdgeTest::full, x -> x.come(0, 0, 0));
        Unchanged.noState("a 17th unlike the others", LoanEdgeTest::full, x -> x.come(2, 4, 7));
        SparePool pool = full();
        pool.undo();
        Check.due("the 16th is the last", pool.come(1, 1, 1), 15);
        Check.noState("and no more", () -> pool.come(1, 1, 1));
    }

    private static void comeFirstThings() {
        Check.says("the one that its description names first is thrown (come)");
        Unchanged.noIndex("kind and parts", Pools::busy, x -> x.come(3, 0, 8));
        Unchanged.noIndex("holder and parts", Pools::busy, x -> x.come(0, 5, -1));
        Unchanged.noIndex("kind and full", LoanEdgeTest::full, x -> x.come(-1, 0, 0));
        Unchanged.noIndex("holder and full", LoanEdgeTest::full, x -> x.come(0, -1, 0));
        Unchanged.noIndex("all three", LoanEdgeTest::full, x -> x.come(3, 5, 8));
        Unchanged.noArgument("parts and full", LoanEdgeTest::full, x -> x.come(0, 0, 8));
        Unchanged.noArgument("parts below and full", LoanEdgeTest::full, x -> x.come(0, 0, -1));
    }

    private static void comeReturns() {
        Check.says("A unit comes. Returns its number");
        SparePool pool = new SparePool();
        for (int u = 0; u <= 15; u++) {
            Check.due("its number", pool.come(0, 4, u % 8), u);
            Check.due("units", pool.about(1), u + 1);
        }
        pool.undo();
        pool.undo();
        Check.due("the number is free again", pool.come(2, 1, 3), 14);
        Check.due("its kind", pool.unit(14, 0), 2);
        Check.due("its owner", pool.unit(14, 1), 1);
        Check.due("its place", pool.unit(14, 2), 1);
        Check.due("its due day", pool.unit(14, 4), -1);
    }

    private static void lendWhich() {
        Check.says("Throws IndexOutOfBoundsException if there is no such unit or holder (lend)");
        for (int u : NO_UNIT) {
            Unchanged.noIndex("unit " + u, Pools::busy, x -> x.lend(u, 0, 1));
        }
        for (int h : NO_HOLDER) {
            Unchanged.noIndex("holder " + h, Pools::busy, x -> x.lend(0, h, 1));
        }
        Unchanged.noIndex("none has come", SparePool::new, x -> x.lend(0, 0, 1));
        Unchanged.noIndex("unit 16 of 16", LoanEdgeTest::full, x -> x.lend(16, 0, 1));
        Check.due("unit 0", Pools.busy().lend(0, 0, 1), 6);
        Check.due("unit 8", Pools.busy().lend(8, 4, 1), 6);
        Check.due("unit 15", full().lend(15, 0, 1), 6);
    }

    private static void lendHowLong() {
        Check.says("days: 1 to 30. Throws IllegalArgumentException if days is out of range");
        for (int days : NO_TERM) {
            Unchanged.noArgument("for " + days, Pools::busy, x -> x.lend(0, 0, days));
        }

        Check.says("Returns its due day: today and so many days");
        for (int days = 1; days <= 30; days++) {
            SparePool pool = Pools.busy();
            Check.due("lend", pool.lend(0, 0, days), 5 + days);
            Check.due("due", pool.unit(0, 4), 5 + days);
        }
        Check.due("on the day 0", Pools.with(7).lend(0, 1, 1), 1);
    }

    private static void lendWhatIsFree() {
        Check.says("Throws IllegalStateException if it is not free, or h is its owner");
        for (int h = 0; h <= 4; h++) {
            int to = h;
            Unchanged.noState("on loan, to " + h, Pools::busy, x -> x.lend(2, to, 1));
            Unchanged.noState("another on loan, to " + h, Pools::busy, x -> x.lend(4, to, 1));
        }
        Unchanged.noState("the pool's to the pool", Pools::busy, x -> x.lend(0, 4, 1));
        Unchanged.noState("0's to 0", Pools::busy, x -> x.lend(3, 0, 1));
        Unchanged.noState("what 2 got in advance to 2", Pools::busy, x -> x.lend(8, 2, 30));
        for (int h = 0; h <= 3; h++) {
            Check.due("the pool's to " + h, Pools.busy().lend(0, h, 1), 6);
        }
        Check.due("one that is not usable", Pools.busy().lend(1, 2, 1), 6);
        Check.due("one without parts", Pools.with(0).lend(0, 4, 1), 1);
        SparePool again = Pools.busy();
        again.bring(2);
        Check.due("one that was brought back", again.lend(2, 2, 2), 7);
    }

    private static void lendFirstThings() {
        Check.says("the one that its description names first is thrown (lend)");
        Unchanged.noIndex("unit and days", Pools::busy, x -> x.lend(9, 0, 0));
        Unchanged.noIndex("holder and days", Pools::busy, x -> x.lend(0, 5, 31));
        Unchanged.noIndex("holder and loan", Pools::busy, x -> x.lend(2, 5, 1));
        Unchanged.noIndex("all three", Pools::busy, x -> x.lend(2, -1, 0));
        Unchanged.noArgument("days and loan", Pools::busy, x -> x.lend(2, 0, 0));
        Unchanged.noArgument("days and owner", Pools::busy, x -> x.lend(0, 4, 31));
    }

    private static void bringWhich() {
        Check.says("Throws IndexOutOfBoundsException if there is no such unit (bring)");
        for (int u : NO_UNIT) {
            Unchanged.noIndex("unit " + u, Pools::busy, x -> x.bring(u));
        }
        Unchanged.noIndex("none has come", SparePool::new, x -> x.bring(0));
        Unchanged.noIndex("unit 16 of 16", LoanEdgeTest::full, x -> x.bring(16));
        SparePool pool = Pools.sixteen(7);
        for (int u = 0; u <= 15; u++) {
            pool.lend(u, 1, 1);
        }
        for (int u = 0; u <= 15; u++) {
            Check.due("unit " + u, pool.bring(u), 0);
        }
    }

    private static void bringWhatIsOnLoan() {
        Check.says("Throws IllegalStateException if it is not on loan");
        int[] free = {0, 1, 3, 5, 6, 7, 8};
        for (int u : free) {
            Unchanged.noState("unit " + u, Pools::busy, x -> x.bring(u));
        }
        SparePool pool = Pools.busy();
        pool.bring(2);
        Check.noState("a second time", () -> pool.bring(2));
    }

    private static void bringReturns() {
        Check.says("Returns the late fees that are paid");
        Check.due("3 days late", Pools.busy().bring(2), 15);
        Check.due("4 days early", Pools.busy().bring(4), 0);
        int[][] feeAndDayAndPaid = {{0, 99, 0}, {1, 7, 0}, {1, 8, 1}, {99, 7, 0}, {99, 8, 99}, {99, 17, 990}};
        for (int[] row : feeAndDayAndPaid) {
            SparePool pool = Pools.with(27);
            pool.lend(0, 4, 7);
            pool.days(row[1]);
            pool.set(0, row[0]);
            Check.due("the fee of now", pool.bring(0), row[2]);
            Check.due("the borrower pays", pool.holder(4, 0), -row[2]);
            Check.due("the owner gets", pool.holder(2, 0), row[2]);
            Check.due("nothing to the outside", pool.about(9), 0);
        }
    }
}
