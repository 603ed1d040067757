/** Promises 15 to 17, exchange, advance and deliver, sentence by sentence. */
public final class ExchangeEdgeTest {
    private static final int MIN = Integer.MIN_VALUE;
    private static final int MAX = Integer.MAX_VALUE;
    private static final int[] NO_UNIT = {-1, 9, 15, 16, MIN, MAX};

    public static void main(String[] args) {
        exchangeWhich();
        exchangeRefused();
        exchangeReturns();
        advanceWhich();
        advanceHowLong();
        advanceRefused();
        advanceUpTo6();
        advanceFirstThings();
        advanceReturns();
        deliverWhich();
        deliverRefused();
        deliverTheOldest();
        deliverReturns();
        Check.finish("ExchangeEdgeTest");
    }

    private static void exchangeWhich() {
        Check.says("Throws IndexOutOfBoundsException if there is no such unit (exchange)");
        for (int u : NO_UNIT) {
            Unchanged.noIndex("u " + u, Pools::busy, x -> x.exchange(u, 0));
            Unchanged.noIndex("v " + u, Pools::busy, x -> x.exchange(3, u));
            Unchanged.noIndex("v " + u + ", first of all", Pools::busy, x -> x.exchange(0, u));
            Unchanged.noIndex("u " + u + ", first of all", Pools::busy, x -> x.exchange(u, 1));
        }
        Unchanged.noIndex("none has come", SparePool::new, x -> x.exchange(0, 0));
        SparePool pool = Pools.sixteen(7);
        pool.undo();
        pool.come(0, 4, 7);
        Check.due("0 and 15", pool.exchange(0, 15), 100);
        Check.due("and back", pool.exchange(15, 0), 100);
        Check.noIndex("16", () -> pool.exchange(1, 16));
    }

    private static void exchangeRefused() {
        Check.says("Throws IllegalStateException if u is the pool's or not free, v is not the pool's, not free or not "
                + "usable, or they are of different kinds");
        Check.due("all is well", Pools.busy().exchange(3, 0), 130);
        Unchanged.noState("u is the pool's", Pools::busy, x -> x.exchange(1, 0));
        Unchanged.noState("u is not free", Pools::busy, x -> x.exchange(4, 0));
        Unchanged.noState("v is not the pool's", () -> Pools.with(7, 17), x -> x.exchange(0, 1));
        Unchanged.noState("v is not free", Pools::busy, x -> x.exchange(3, 2));
        for (int parts = 0; parts <= 6; parts++) {
            int bits = parts;
            Unchanged.noState("v has " + parts, () -> Pools.with(7, 40 + bits), x -> x.exchange(0, 1));
        }
        Unchanged.noState("another kind", Pools::busy, x -> x.exchange(3, 7));
        for (int kinds = 0; kinds < 9; kinds++) {
            int u = kinds / 3;
            int v = kinds % 3;
            String got = Outcome.of(() -> Pools.with(100 * u + 7, 100 * v + 47).exchange(0, 1));
            Check.same("kinds " + u + " and " + v, got, u == v ? "100" : "IllegalStateException");
        }
        Unchanged.noState("twice the same, the pool's", Pools::busy, x -> x.exchange(0, 0));
        Unchanged.noState("twice the same, an operator's", Pools::busy, x -> x.exchange(8, 8));
        Unchanged.noState("the pool's for an operator's", () -> Pools.with(7, 47), x -> x.exchange(1, 0));
    }

    private static void exchangeReturns() {
        Check.says("Returns what the owner of u pays");
        for (int h = 0; h <= 3; h++) {
            SparePool pool = Pools.with(10 * h + 2, 47);
            Check.due("exchange", pool.exchange(0, 1), 140);
            for (int other = 0; other <= 4; other++) {
                Check.due("account", pool.holder(other, 0), other == h ? -140 : other == 4 ? 140 : 0);
            }
        }
        SparePool pool = Pools.with(2, 47);
        pool.set(1, 0);
        pool.set(2, 999);
        Check.due("parts alone", pool.exchange(0, 1), 1998);
        SparePool other = Pools.with(2, 47);
        other.set(1, 999);
        other.set(2, 0);
        Check.due("no parts", other.exchange(0, 1), 999);
    }

    private static void advanceWhich() {
        Check.says("Throws IndexOutOfBoundsException if there is no such holder or unit (advance)");
        int[] noHolder = {-1, 5, MIN, MAX};
        for (int h : noHolder) {
            Unchanged.noIndex("holder " + h, Pools::busy, x -> x.advance(h, 0, 1));
        }
        for (int v : NO_UNIT) {
            Unchanged.noIndex("unit " + v, Pools::busy, x -> x.advance(0, v, 1));
        }
        Unchanged.noIndex("none has come", SparePool::new, x -> x.advance(0, 0, 1));
        for (int h = 0; h <= 3; h++) {
            Check.due("to " + h, Pools.busy().advance(h, 0, 1), 6);
        }
        Check.due("unit 15", Pools.sixteen(47).advance(0, 15, 1), 1);
        Check.noIndex("unit 16", () -> Pools.sixteen(47).advance(0, 16, 1));
    }

    private static void advanceHowLong() {
        Check.says("days: 1 to 30. Throws IllegalArgumentException if days is out of range (advance)");
        int[] noTerm = {-1, 0, 31, MIN, MAX};
        for (int days : noTerm) {
            Unchanged.noArgument("for " + days, Pools::busy, x -> x.advance(0, 0, days));
        }
        Check.due("for 1", Pools.busy().advance(0, 0, 1), 6);
        Check.due("for 30", Pools.busy().advance(0, 0, 30), 35);
    }

    private static void advanceRefused() {
        Check.says("Throws IllegalStateException if h is the pool, or owes 6 cores, or v is not the pool's, not free or "
                + "not usable");
        Unchanged.noState("h is the pool", Pools::busy, x -> x.advance(4, 0, 1));
        Unchanged.noState("v is not the pool's", Pools::busy, x -> x.advance(0, 8, 1));
        Unchanged.noState("v is h's", Pools::busy, x -> x.advance(2, 8, 1));
        Unchanged.noState("v is not free", Pools::busy, x -> x.advance(0, 2, 1));
        Unchanged.noState("v is lent to h", Pools::busy, x -> x.advance(2, 2, 1));
        for (int parts = 0; parts <= 6; parts++) {
            int bits = parts;
            Unchanged.noState("v has " + parts, () -> Pools.with(40 + bits), x -> x.advance(0, 0, 1));
        }
    }

    private static SparePool six() {
        SparePool pool = Pools.with(47, 47, 147, 147, 247, 247, 47, 147, 247, 47);
        for (int v = 0; v < 6; v++) {
            pool.advance(1, v, 9);
        }
        return pool;
    }

    private static void advanceUpTo6() {
        Check.says("An operator owes at most 6 cores at a time (of all kinds)");
        for (int v = 6; v <= 9; v++) {
            int unit = v;
            Unchanged.noState("a 7th by unit " + v, ExchangeEdgeTest::six, x -> x.advance(1, unit, 1));
        }
        SparePool pool = six();
        Check.due("cores", pool.holder(1, 4), 6);
        Check.due("another operator's", pool.advance(0, 6, 1), 1);
        Check.due("exchange() owes none", pool.exchange(2, 7), 100);
        Check.noState("still 6", () -> pool.advance(1, 8, 1));
        pool.deliver(4);
        Check.due("5, so one more", pool.advance(1, 8, 2), 2);
        Check.due("it is the newest", pool.core(1, 5, 1), 2);
        Check.noState("6 again", () -> pool.advance(1, 9, 1));
        pool.undo();
        Check.due("5 again", pool.advance(1, 9, 3), 3);
    }

    private static void advanceFirstThings() {
        Check.says("the one that its description names first is thrown (advance)");
        Unchanged.noIndex("holder and days", Pools::busy, x -> x.advance(5, 0, 0));
        Unchanged.noIndex("unit and days", Pools::busy, x -> x.advance(0, 9, 31));
        Unchanged.noIndex("unit and pool", Pools::busy, x -> x.advance(4, 9, 1));
        Unchanged.noIndex("holder and unit's owner", Pools::busy, x -> x.advance(-1, 8, 1));
        Unchanged.noIndex("unit and 6 cores", ExchangeEdgeTest::six, x -> x.advance(1, 10, 1));
        Unchanged.noArgument("days and pool", Pools::busy, x -> x.advance(4, 0, 0));
        Unchanged.noArgument("days and loan", Pools::busy, x -> x.advance(0, 2, 31));
        Unchanged.noArgument("days and gap", Pools::busy, x -> x.advance(0, 1, 0));
        Unchanged.noArgument("days and 6 cores", ExchangeEdgeTest::six, x -> x.advance(1, 6, 31));
    }

    private static void advanceReturns() {
        Check.says("Returns the due day of the core: today and so many days");
        for (int days = 1; days <= 30; days++) {
            SparePool pool = Pools.with(247);
            pool.days(99);
            Check.due("advance", pool.advance(3, 0, days), 99 + days);
            Check.due("the core's day", pool.core(3, 0, 1), 99 + days);
            Check.due("the core's kind", pool.core(3, 0, 0), 2);
            Check.due("the unit is not on loan", pool.unit(0, 4), -1);
        }
    }

    private static void deliverWhich() {
        Check.says("Throws IndexOutOfBoundsException if there is no such unit (deliver)");
        for (int u : NO_UNIT) {
            Unchanged.noIndex("unit " + u, Pools::busy, x -> x.deliver(u));
        }
        Unchanged.noIndex("none has come", SparePool::new, x -> x.deliver(0));
        SparePool pool = Pools.sixteen(47);
        pool.advance(0, 15, 1);
        Check.noIndex("unit 16", () -> pool.deliver(16));
        Check.due("unit 15", pool.deliver(15), 100);
        pool.advance(0, 0, 1);
        Check.due("unit 0", pool.deliver(0), 100);
    }

    private static void deliverRefused() {
        Check.says("Throws IllegalStateException if it is the pool's or not free, or its owner owes no core of its kind");
        Unchanged.noState("the pool's", Pools::busy, x -> x.deliver(0));
        Unchanged.noState("the pool's on loan to one who owes", Pools::busy, x -> x.deliver(2));
        Unchanged.noState("its owner owes none", Pools::busy, x -> x.deliver(3));
        Unchanged.noState("not free", () -> owing(true), x -> x.deliver(1));
        Check.due("free", owing(false).deliver(1), 100);
        Unchanged.noState("another kind", () -> owing(false), x -> x.deliver(2));
        Unchanged.noState("an even larger kind", () -> owing(false), x -> x.deliver(3));
        Unchanged.noState("another operator's", () -> owing(false), x -> x.deliver(4));
        SparePool pool = owing(false);
        pool.deliver(1);
        Check.noState("no more is owed", () -> pool.deliver(0));
    }

    /** 2 owes a core of kind 0, and has a unit of each kind beside what it got. */
    private static SparePool owing(boolean lent) {
        SparePool pool = Pools.with(47, 27, 127, 227, 17);
        pool.advance(2, 0, 3);
        if (lent) {
            pool.lend(1, 4, 3);
        }
        return pool;
    }

    private static void deliverTheOldest() {
        Check.says("the oldest core that it owes of this kind is settled (not the one that is due first)");
        for (int kind = 0; kind <= 2; kind++) {
            SparePool pool = Pools.with(47, 147, 247, 47, 147, 247, 100 * kind);
            for (int v = 0; v < 6; v++) {
                pool.advance(0, v, 30 - v);
            }
            pool.deliver(6);
            Check.due("5 are left", pool.holder(0, 4), 5);
            for (int k = 0; k < 5; k++) {
                int was = k < kind ? k : k + 1;
                Check.due("kind", pool.core(0, k, 0), was % 3);
                Check.due("day", pool.core(0, k, 1), 30 - was);
            }
            Check.due("no sixth", pool.core(0, 5, 0), -1);
        }
        SparePool last = six();
        int[] order = {0, 2, 4, 1, 3, 5};
        for (int u : order) {
            Check.due("deliver", last.deliver(u), 100);
        }
        Check.due("none is left", last.core(1, 0, 0), -1);
    }

    private static void deliverReturns() {
        Check.says("Returns what its owner pays");
        for (int late = -1; late <= 3; late++) {
            SparePool pool = Pools.with(47, 32);
            pool.advance(3, 0, 10);
            pool.days(10 + late);
            int price = 140 + 5 * Math.max(0, late);
            Check.due("late by " + late, pool.deliver(1), price);
            Check.due("its owner", pool.holder(3, 0), -price);
            Check.due("the pool", pool.holder(4, 0), price);
        }
        SparePool dear = Pools.with(47, 0);
        dear.advance(0, 0, 1);
        dear.days(2);
        dear.set(0, 99);
        dear.set(1, 999);
        dear.set(2, 999);
        Check.due("by the settings of now", dear.deliver(1), 4 * 999 + 99);
        SparePool free = Pools.with(47, 0);
        free.advance(0, 0, 1);
        free.days(99);
        free.set(0, 0);
        free.set(1, 0);
        free.set(2, 0);
        Check.due("for nothing", free.deliver(1), 0);
        Check.due("the core is settled", free.about(5), 0);
    }
}
