/** Promises 24 to 29, complete, takings, bill, firstDue, cheapest and inDebt, sentence by sentence. */
public final class ForesightEdgeTest {
    private static final int MIN = Integer.MIN_VALUE;
    private static final int MAX = Integer.MAX_VALUE;
    private static final int[] NO_HOLDER = {-1, 5, MIN, MAX};
    private static final int[] NO_KIND = {-1, 3, MIN, MAX};

    public static void main(String[] args) {
        completeWhich();
        completeHowMany();
        takingsHowMany();
        atThisPlaceAndOfThisKind();
        billWhich();
        billHowMuch();
        firstDue();
        cheapestWhich();
        cheapestOfAll();
        inDebtBelow0();
        inDebtByWhat();
        theyChangeNothing();
        Check.finish("ForesightEdgeTest");
    }

    private static void completeWhich() {
        Check.says("Throws IndexOutOfBoundsException if there is no such holder or kind (complete, takings)");
        for (int h : NO_HOLDER) {
            Unchanged.noIndex("complete of " + h, Pools::busy, x -> x.complete(h, 0));
            Unchanged.noIndex("takings of " + h, Pools::busy, x -> x.takings(h, 0));
        }
        for (int kind : NO_KIND) {
            Unchanged.noIndex("complete of kind " + kind, Pools::busy, x -> x.complete(0, kind));
            Unchanged.noIndex("takings of kind " + kind, Pools::busy, x -> x.takings(0, kind));
        }
        for (int h = 0; h <= 4; h++) {
            for (int kind = 0; kind <= 2; kind++) {
                both(Pools.with(100 * kind + 10 * h + 7), h, kind, 1, 0);
            }
        }
    }

    private static void both(SparePool pool, int h, int kind, int most, int fewest) {
        Check.due("complete(" + h + ", " + kind + ")", pool.complete(h, kind), most);
        Check.due("takings(" + h + ", " + kind + ")", pool.takings(h, kind), fewest);
    }

    private static SparePool each(String parts) {
        SparePool pool = new SparePool();
        for (int i = 0; i < parts.length(); i++) {
            pool.come(0, 0, parts.charAt(i) - '0');
        }
        return pool;
    }

    private static void completeHowMany() {
        Check.says("Returns the greatest number of usable units of this kind that there can be at this place, by taking "
                + "parts among those that are there");
        both(new SparePool(), 0, 0, 0, 0);
        both(each("0"), 0, 0, 0, 0);
        both(each("6"), 0, 0, 0, 0);
        both(each("7"), 0, 0, 1, 0);
        both(each("7777777777777777"), 0, 0, 16, 0);
        both(each("0000000000000000"), 0, 0, 0, 0);
        both(each("3333333333333333"), 0, 0, 0, 0);
        both(each("5555555555555555"), 0, 0, 0, 0);
        both(each("6666666666666666"), 0, 0, 0, 0);
        both(each("7666666666666666"), 0, 0, 1, 0);
        both(each("6666666666666667"), 0, 0, 1, 0);
        both(each("3333333333333334"), 0, 0, 1, 1);
        both(each("3333333344444444"), 0, 0, 8, 8);
        both(each("1111112222244444"), 0, 0, 5, 10);
    }

    private static void takingsHowMany() {
        Check.says("Returns the smallest number of takings with which there are complete(h, kind) usable units of this "
                + "kind at this place");
        both(each("124"), 0, 0, 1, 2);
        both(each("34"), 0, 0, 1, 1);
        both(each("421"), 0, 0, 1, 2);
        both(each("1246"), 0, 0, 1, 1);
        both(each("77"), 0, 0, 2, 0);
        both(each("7124"), 0, 0, 2, 2);
        both(each("765"), 0, 0, 2, 1);
        both(each("653"), 0, 0, 2, 2);
        both(each("666111"), 0, 0, 3, 3);
        both(each("0124"), 0, 0, 1, 2);
        both(each("0007"), 0, 0, 1, 0);
        both(each("73636"), 0, 0, 3, 2);
    }

    private static void atThisPlaceAndOfThisKind() {
        Check.says("units of this kind at this place (on loan or free)");
        SparePool pool = Pools.with(3, 14, 104, 4);
        both(pool, 0, 0, 1, 1);
        both(pool, 0, 1, 0, 0);
        both(pool, 1, 0, 0, 0);
        pool.lend(3, 1, 2);
        both(pool, 0, 0, 0, 0);
        both(pool, 1, 0, 0, 0);
        pool.lend(1, 0, 2);
        both(pool, 0, 0, 1, 1);
        pool.lend(0, 4, 2);
        both(pool, 0, 0, 0, 0);
        both(pool, 4, 0, 0, 0);
        pool.bring(0);
        both(pool, 0, 0, 1, 1);
    }

    private static void billWhich() {
        Check.says("Throws IndexOutOfBoundsException if there is no such holder (bill)");
        for (int h : NO_HOLDER) {
            Unchanged.noIndex("bill(" + h + ", 0)", Pools::busy, x -> x.bill(h, 0));
            Unchanged.noIndex("bill(" + h + ", -1): first the holder", Pools::busy, x -> x.bill(h, -1));
            Unchanged.noIndex("bill(" + h + ", 100): first the holder", Pools::busy, x -> x.bill(h, 100));
        }

        Check.says("n: 0 to 99. Throws IllegalArgumentException if n is out of range (bill)");
        int[] wrong = {-1, 100, MIN, MAX};
        for (int n : wrong) {
            Unchanged.noArgument("bill(0, " + n + ")", Pools::busy, x -> x.bill(0, n));
            Unchanged.noArgument("bill(4, " + n + ")", SparePool::new, x -> x.bill(4, n));
        }
        for (int n = 0; n <= 99; n++) {
            Check.due("of one who has none", Pools.busy().bill(0, n), 0);
            Check.due("of one 3 days late", Pools.busy().bill(2, n), 15 + 5 * n);
        }
    }

    private static void billHowMuch() {
        Check.says("the late fees for all units that it has borrowed, if they were brought back n days later than now");
        SparePool pool = Pools.with(17, 47, 17);
        pool.days(4);
        pool.lend(0, 2, 3);
        for (int n = 0; n <= 99; n++) {
            Check.due("of one", pool.bill(2, n), 5 * Math.max(0, n - 3));
        }
        pool.lend(1, 2, 5);
        Check.due("on the first one's due day", pool.bill(2, 3), 0);
        Check.due("a day later", pool.bill(2, 4), 5);
        Check.due("on the second one's due day", pool.bill(2, 5), 10);
        Check.due("a day later", pool.bill(2, 6), 20);
        pool.days(10);
        Check.due("now", pool.bill(2, 0), 60);
        pool.set(0, 99);
        Check.due("by the fee of now", pool.bill(2, 99), 99 * (106 + 104));
        pool.set(0, 0);
        Check.due("for nothing", pool.bill(2, 99), 0);

        Check.says("less those that it would get for its own ones that are on loan");
        pool.set(0, 1);
        Check.due("an owner's", pool.bill(1, 0), -7);
        Check.due("the pool's", pool.bill(4, 0), -5);
        Check.due("the borrower's", pool.bill(2, 0), 12);
        Check.due("of one without any", pool.bill(3, 99), 0);
        SparePool both = Pools.with(17, 27);
        both.lend(0, 2, 1);
        both.lend(1, 1, 1);
        Check.due("as much as it gets", both.bill(1, 99), 0);
        both.bring(1);
        Check.due("it gets more", both.bill(1, 99), -490);
        Check.due("it pays more", both.bill(2, 99), 490);
        both.bring(0);
        Check.due("nothing is on loan", both.bill(1, 99), 0);
    }

    private static void firstDue() {
        Check.says("NONE if none is on loan");
        Check.due("no units", new SparePool().firstDue(), -1);
        SparePool pool = Pools.sixteen(27);
        Check.due("16 free ones", pool.firstDue(), -1);
        pool.lend(15, 1, 30);
        Check.due("the last one alone", pool.firstDue(), 15);
        pool.bring(15);
        Check.due("brought back", pool.firstDue(), -1);

        Check.says("Returns the unit on loan with the earliest due day, among several the lowest");
        for (int u = 0; u <= 15; u++) {
            pool.lend(u, 4, 30 - u);
            Check.due("an earlier one", pool.firstDue(), u);
        }
        for (int u = 15; u >= 1; u--) {
            pool.bring(u);
            Check.due("the one before", pool.firstDue(), u - 1);
        }
        SparePool alike = Pools.sixteen(27);
        for (int u = 15; u >= 0; u--) {
            alike.lend(u, u % 2, 9);
            Check.due("the lowest of those alike", alike.firstDue(), u);
        }
        alike.days(99);
        Check.due("late or not", alike.firstDue(), 0);
        alike.bring(0);
        alike.lend(0, 1, 1);
        Check.due("lent anew", alike.firstDue(), 1);
    }

    private static void cheapestWhich() {
        Check.says("Throws IndexOutOfBoundsException if there is no such holder or kind (cheapest)");
        for (int h : NO_HOLDER) {
            Unchanged.noIndex("cheapest(" + h + ", 0)", Pools::busy, x -> x.cheapest(h, 0));
        }
        for (int kind : NO_KIND) {
            Unchanged.noIndex("cheapest(0, " + kind + ")", Pools::busy, x -> x.cheapest(0, kind));
            Unchanged.noIndex("cheapest(4, " + kind + ")", Pools::busy, x -> x.cheapest(4, kind));
        }
        for (int h = 0; h <= 3; h++) {
            for (int kind = 0; kind <= 2; kind++) {
                Check.due("cheapest", Pools.with(100 * kind + 10 * h).cheapest(h, kind), 0);
            }
        }

        Check.says("NONE if there is none, or h is the pool");
        Check.due("no units", new SparePool().cheapest(0, 0), -1);
        Check.due("another kind", Pools.with(107).cheapest(0, 0), -1);
        Check.due("another's", Pools.with(17).cheapest(0, 0), -1);
        SparePool lent = Pools.with(7);
        lent.lend(0, 1, 2);
        Check.due("one on loan is not free", lent.cheapest(0, 0), -1);
        Check.due("and not the borrower's", lent.cheapest(1, 0), -1);
        lent.bring(0);
        Check.due("brought back", lent.cheapest(0, 0), 0);
        for (int kind = 0; kind <= 2; kind++) {
            Check.due("the pool", Pools.with(47, 147, 247).cheapest(4, kind), -1);
        }

        Check.says("(whether the pool has a unit for it or not)");
        Check.due("it has none", Pools.with(7).cheapest(0, 0), 0);
        Check.due("it has one of another kind", Pools.with(7, 147).cheapest(0, 0), 0);
        Check.due("it has one that is not usable", Pools.with(7, 46).cheapest(0, 0), 0);
        Check.due("it has one", Pools.with(7, 47).cheapest(0, 0), 0);
    }

    private static void cheapestOfAll() {
        Check.says("the free unit of this kind that h owns, for which it would pay least by exchange() now, among "
                + "several the lowest");
        int[] fewestGapsFirst = {7, 6, 5, 3, 4, 2, 1, 0};
        SparePool pool = new SparePool();
        for (int i = 7; i >= 0; i--) {
            pool.come(0, 0, fewestGapsFirst[i]);
            int gaps = 3 - Integer.bitCount(fewestGapsFirst[i]);
            int lowest = gaps == 3 ? 0 : gaps == 2 ? 1 : gaps == 1 ? 4 : 7;
            Check.due("with " + fewestGapsFirst[i], pool.cheapest(0, 0), lowest);
        }
        pool.set(2, 0);
        Check.due("when parts cost nothing", pool.cheapest(0, 0), 0);
        pool.set(2, 1);
        Check.due("when they cost 1", pool.cheapest(0, 0), 7);
        pool.lend(7, 1, 1);
        Check.due("the next ones", pool.cheapest(0, 0), 4);
        Check.due("16 alike", Pools.sixteen(5).cheapest(0, 0), 0);
        SparePool last = Pools.sixteen(3);
        last.buy(15, 2);
        Check.due("the last of 16", last.cheapest(0, 0), 15);
    }

    private static void inDebtBelow0() {
        Check.says("Returns the holders whose account would be below 0, bit h set for the holder h");
        Check.due("none", new SparePool().inDebt(), 0);
        SparePool all = Pools.with(0, 10, 20, 30, 40);
        all.set(2, 1);
        int bits = 0;
        for (int h = 0; h <= 4; h++) {
            all.buy(h, 0);
            bits += 1 << h;
            Check.due("1 below 0, up to " + h, all.inDebt(), bits);
        }
        SparePool zero = Pools.with(7, 10, 0);
        zero.lend(0, 1, 1);
        zero.days(2);
        zero.set(0, 20);
        zero.buy(2, 0);
        Check.due("0 would be at 0, 1 at -20", zero.inDebt(), 2);
        zero.set(0, 19);
        Check.due("0 would be at -1", zero.inDebt(), 3);
        zero.set(0, 21);
        Check.due("0 would be at 1", zero.inDebt(), 2);
        zero.set(0, 0);
        Check.due("0 would be at -20, 1 at 0", zero.inDebt(), 1);
    }

    private static void inDebtByWhat() {
        Check.says("if all units on loan were brought back now, and then all debts of parts were settled with money");
        SparePool fees = Pools.with(7);
        fees.lend(0, 1, 4);
        fees.days(4);
        Check.due("on the due day", fees.inDebt(), 0);
        fees.days(1);
        Check.due("a day later", fees.inDebt(), 2);
        SparePool parts = Pools.with(7, 40);
        parts.lend(0, 4, 30);
        parts.take(0, 1, 2);
        Check.due("a part is owed", parts.inDebt(), 16);
        parts.set(2, 0);
        Check.due("that costs nothing", parts.inDebt(), 0);
        parts.set(2, 999);
        parts.settle(4, 0, 0, 2);
        Check.due("that is paid", parts.inDebt(), 16);
        SparePool both = Pools.with(7, 10);
        both.lend(0, 1, 1);
        both.take(0, 1, 0);
        both.take(0, 1, 1);
        both.days(99);
        both.undo();
        Check.due("two parts alone", both.inDebt(), 2);
        SparePool even = Pools.with(7, 10, 17);
        even.lend(0, 1, 1);
        even.take(0, 1, 0);
        even.lend(2, 0, 1);
        even.days(5);
        Check.due("fees that cancel, and a part", even.inDebt(), 2);
        even.set(0, 99);
        even.bring(2);
        Check.due("0 has paid, and gets a fee and a part", even.inDebt(), 2);
        even.bring(0);
        Check.due("1 owes a part, and its account is 0", even.inDebt(), 2);
        even.set(2, 0);
        Check.due("at a price of 0", even.inDebt(), 0);
        SparePool cores = Pools.with(47);
        cores.advance(0, 0, 1);
        cores.days(99);
        Check.due("a core is no debt of parts", cores.inDebt(), 0);
    }

    private static void theyChangeNothing() {
        Check.says("what would be; these and all following methods up to the save slots change nothing");
        Unchanged.by("complete", Pools::busy, x -> x.complete(4, 0));
        Unchanged.by("takings", Pools::busy, x -> x.takings(4, 0));
        Unchanged.by("bill", Pools::busy, x -> x.bill(2, 99));
        Unchanged.by("firstDue", Pools::busy, SparePool::firstDue);
        Unchanged.by("cheapest", Pools::busy, x -> x.cheapest(0, 0));
        Unchanged.by("inDebt", Pools::busy, SparePool::inDebt);
    }
}
