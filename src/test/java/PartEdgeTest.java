/** Promises 18 to 20, take, settle and buy, sentence by sentence. */
public final class PartEdgeTest {
    private static final int MIN = Integer.MIN_VALUE;
    private static final int MAX = Integer.MAX_VALUE;
    private static final int[] NO_UNIT = {-1, 9, 15, 16, MIN, MAX};
    private static final int[] NO_PART = {-1, 3, 31, 32, 33, MIN, MAX};
    private static final int[] NO_HOLDER = {-1, 5, MIN, MAX};

    public static void main(String[] args) {
        takeWhich();
        takeRefused();
        takeOfAllParts();
        takeReturns();
        debtsOfManySorts();
        settleWhich();
        settleRefused();
        settleReturns();
        buyWhich();
        buyRefused();
        buyReturns();
        Check.finish("PartEdgeTest");
    }

    private static void takeWhich() {
        Check.says("Throws IndexOutOfBoundsException if there is no such unit or part (take)");
        for (int u : NO_UNIT) {
            Unchanged.noIndex("u " + u, Pools::busy, x -> x.take(u, 1, 2));
            Unchanged.noIndex("v " + u, Pools::busy, x -> x.take(0, u, 2));
            Unchanged.noIndex("v " + u + ", first of all", Pools::busy, x -> x.take(5, u, 2));
        }
        for (int part : NO_PART) {
            Unchanged.noIndex("part " + part, Pools::busy, x -> x.take(0, 1, part));
            Unchanged.noIndex("part " + part + ", first of all", Pools::busy, x -> x.take(0, 7, part));
        }
        Unchanged.noIndex("none has come", SparePool::new, x -> x.take(0, 0, 0));
        for (int part = 0; part <= 2; part++) {
            SparePool pool = Pools.sixteen(0);
            pool.buy(0, part);
            Check.due("from 0 for 15", pool.take(0, 15, part), 0);
            Check.due("and back", pool.take(15, 0, part), 0);
        }
        Check.noIndex("16", () -> Pools.sixteen(1).take(0, 16, 0));
    }

    private static void takeRefused() {
        Check.says("Throws IllegalStateException if they are of different kinds or at different places, u lacks the "
                + "part, or v has it");
        Check.due("all is well", Pools.busy().take(0, 1, 2), 0);
        Unchanged.noState("other kinds", Pools::busy, x -> x.take(0, 7, 2));
        Unchanged.noState("other kinds, v lacks it", () -> Pools.with(7, 100), x -> x.take(0, 1, 0));
        Unchanged.noState("other kinds, 1 and 2", () -> Pools.with(107, 200), x -> x.take(0, 1, 0));
        Unchanged.noState("other places", () -> Pools.with(7, 10), x -> x.take(0, 1, 0));
        Unchanged.noState("other places of one owner", PartEdgeTest::oneAway, x -> x.take(0, 1, 0));
        Unchanged.noState("and the other way", PartEdgeTest::oneAway, x -> x.take(1, 2, 0));
        Check.due("both away", oneAway().take(1, 3, 0), 0);
        Unchanged.noState("u lacks it", () -> Pools.with(3, 0), x -> x.take(0, 1, 2));
        Unchanged.noState("v has it", () -> Pools.with(7, 4), x -> x.take(0, 1, 2));
        Unchanged.noState("u lacks what v has", () -> Pools.with(3, 4), x -> x.take(0, 1, 2));
        for (int part = 0; part <= 2; part++) {
            int which = part;
            Unchanged.noState("for itself", Pools::busy, x -> x.take(0, 0, which));
            Unchanged.noState("for itself, without any", () -> Pools.with(0), x -> x.take(0, 0, which));
        }
    }

    /** Units of 0: 0 and 2 at its place, 1 and 3 lent to 1. */
    private static SparePool oneAway() {
        SparePool pool = Pools.with(7, 7, 0, 0);
        pool.lend(1, 1, 3);
        pool.lend(3, 1, 3);
        return pool;
    }

    private static void takeOfAllParts() {
        Check.says("u: unit that loses it; v: unit that gets it");
        for (int i = 0; i < 64 * 3; i++) {
            int from = i / 3 / 8;
            int to = i / 3 % 8;
            int bit = 1 << i % 3;
            int part = i % 3;
            SparePool pool = Pools.with(from, to);
            boolean can = (from & bit) != 0 && (to & bit) == 0;
            String got = Outcome.of(() -> pool.take(0, 1, part));
            Check.same("take " + part + " of " + from + " for " + to, got, can ? "0" : "IllegalStateException");
            Check.due("the one", pool.unit(0, 3), can ? from - bit : from);
            Check.due("the other one", pool.unit(1, 3), can ? to + bit : to);
            Check.due("how often", pool.about(7), can ? 1 : 0);
        }
    }

    /** Units 0 to 6 of 0, with all parts, and 7 to 13 of 1, without any, all of kind 2 and at the place of 1. */
    private static SparePool seven() {
        SparePool pool = new SparePool();
        for (int u = 0; u < 14; u++) {
            pool.come(2, u / 7, u < 7 ? 7 : 0);
        }
        for (int u = 0; u < 7; u++) {
            pool.lend(u, 1, 30);
        }
        return pool;
    }

    private static void takeReturns() {
        Check.says("Returns how many such parts the owner of v owes the owner of u then (0 if it owns both)");
        SparePool pool = seven();
        for (int u = 0; u < 7; u++) {
            Check.due("one more", pool.take(u, u + 7, 1), u + 1);
            Check.due("owed", pool.owed(1, 0, 2, 1), u + 1);
        }
        for (int u = 0; u < 7; u++) {
            Check.due("back: 0 owes 1 none", pool.take(u + 7, u, 1), 0);
            Check.due("one less", pool.owed(1, 0, 2, 1), 6 - u);
            Check.due("never the other way", pool.owed(0, 1, 2, 1), 0);
        }
        Check.due("how often", pool.about(7), 14);
        Check.due("another part", pool.take(0, 7, 0), 1);
        Check.due("and another", pool.take(0, 7, 2), 1);
        Check.due("among those of 0", pool.take(1, 0, 0), 0);
        Check.due("among those of 1", pool.take(7, 8, 0), 0);
        Check.due("two are owed", pool.about(6), 2);
    }

    private static void debtsOfManySorts() {
        Check.says("if that one owes this one such a part (of this kind and number, and no other), this debt becomes "
                + "less by one instead");
        SparePool part = Pools.with(7, 10, 15);
        part.lend(0, 1, 9);
        part.take(0, 1, 0);
        part.take(0, 1, 1);
        part.take(2, 0, 0);
        Check.due("part 0 cancels", part.owed(1, 0, 0, 0), 0);
        Check.due("part 1 stays", part.owed(1, 0, 0, 1), 1);
        Check.due("0 has 1's", part.take(2, 1, 2), 0);
        Check.due("0 owes 1 none", part.holder(0, 5), 0);

        SparePool kind = Pools.with(7, 10, 100, 117);
        kind.lend(0, 1, 9);
        kind.lend(2, 1, 9);
        Check.due("kind 0", kind.take(0, 1, 0), 1);
        Check.due("kind 1 the other way", kind.take(3, 2, 0), 1);
        Check.due("both are owed", kind.about(6), 2);
        Check.due("1 owes 0", kind.owed(1, 0, 0, 0), 1);
        Check.due("0 owes 1", kind.owed(0, 1, 1, 0), 1);

        SparePool third = Pools.with(1, 10, 21, 20);
        third.lend(0, 1, 9);
        third.lend(2, 1, 9);
        third.lend(3, 1, 9);
        Check.due("1 owes 0", third.take(0, 1, 0), 1);
        Check.due("0 owes 2", third.take(2, 0, 0), 1);
        Check.due("2 owes 1", third.take(1, 3, 0), 1);
        Check.due("a ring does not cancel", third.about(6), 3);
    }

    private static void settleWhich() {
        Check.says("Throws IndexOutOfBoundsException if there is no such holder, kind or part (settle)");
        for (int h : NO_HOLDER) {
            Unchanged.noIndex("h " + h, Pools::busy, x -> x.settle(h, 1, 0, 1));
            Unchanged.noIndex("other " + h, Pools::busy, x -> x.settle(3, h, 0, 1));
        }
        int[] noKind = {-1, 3, MIN, MAX};
        for (int kind : noKind) {
            Unchanged.noIndex("kind " + kind, Pools::busy, x -> x.settle(3, 1, kind, 1));
        }
        for (int part : NO_PART) {
            Unchanged.noIndex("part " + part, Pools::busy, x -> x.settle(3, 1, 0, part));
        }
        for (int h = 0; h <= 4; h++) {
            int to = h == 0 ? 4 : 0;
            SparePool pool = Pools.with(207 + 10 * to, 200 + 10 * h);
            pool.lend(0, h, 1);
            Check.due("take", pool.take(0, 1, 2), 1);
            Check.due("settle", pool.settle(h, to, 2, 2), 0);
            Check.due("who owed it", pool.holder(h, 0), -20);
            Check.due("to whom", pool.holder(to, 0), 20);
        }
    }

    private static void settleRefused() {
        Check.says("Throws IllegalStateException if h owes the other one none");
        Check.due("it owes one", Pools.busy().settle(3, 1, 0, 1), 0);
        Unchanged.noState("what is settled", Pools::busy, x -> x.settle(3, 1, 0, 0));
        Unchanged.noState("the other way", Pools::busy, x -> x.settle(1, 3, 0, 1));
        Unchanged.noState("another part", Pools::busy, x -> x.settle(3, 1, 0, 2));
        Unchanged.noState("another kind", Pools::busy, x -> x.settle(3, 1, 1, 1));
        Unchanged.noState("another holder", Pools::busy, x -> x.settle(3, 0, 0, 1));
        Unchanged.noState("another's debt", Pools::busy, x -> x.settle(2, 1, 0, 1));
        Unchanged.noState("a core is no part", Pools::busy, x -> x.settle(2, 4, 2, 0));
        for (int h = 0; h <= 4; h++) {
            int self = h;
            Unchanged.noState("itself", Pools::busy, x -> x.settle(self, self, 0, 1));
        }
        Unchanged.noState("in a new one", SparePool::new, x -> x.settle(0, 1, 0, 0));
        SparePool pool = Pools.busy();
        pool.settle(3, 1, 0, 1);
        Check.noState("a second time", () -> pool.settle(3, 1, 0, 1));
    }

    private static void settleReturns() {
        Check.says("Returns how many such parts h owes the other one then");
        SparePool pool = seven();
        for (int u = 0; u < 7; u++) {
            pool.take(u, u + 7, 1);
        }
        pool.take(0, 7, 0);
        for (int left = 6; left >= 0; left--) {
            pool.set(2, left);
            Check.due("settle", pool.settle(1, 0, 2, 1), left);
            Check.due("owed", pool.owed(1, 0, 2, 1), left);
        }
        Check.due("paid by the prices of then", pool.holder(1, 0), -21);
        Check.due("and got", pool.holder(0, 0), 21);
        Check.due("the other part is owed still", pool.about(6), 1);
        Check.noState("none left", () -> pool.settle(1, 0, 2, 1));
    }

    private static void buyWhich() {
        Check.says("Throws IndexOutOfBoundsException if there is no such unit or part (buy)");
        for (int u : NO_UNIT) {
            Unchanged.noIndex("unit " + u, Pools::busy, x -> x.buy(u, 0));
        }
        for (int part : NO_PART) {
            Unchanged.noIndex("part " + part, Pools::busy, x -> x.buy(5, part));
            Unchanged.noIndex("part " + part + " of a whole one", Pools::busy, x -> x.buy(0, part));
        }
        Unchanged.noIndex("none has come", SparePool::new, x -> x.buy(0, 0));
        SparePool pool = Pools.sixteen(0);
        for (int u = 0; u <= 15; u++) {
            Check.due("unit " + u, pool.buy(u, u % 3), 1 << u % 3);
        }
        Check.noIndex("unit 16", () -> pool.buy(16, 0));
    }

    private static void buyRefused() {
        Check.says("Throws IllegalStateException if it has the part");
        for (int i = 0; i < 24; i++) {
            int bits = i / 3;
            int part = i % 3;
            if ((bits & 1 << part) != 0) {
                Unchanged.noState("part " + part + " of " + bits, () -> Pools.with(bits), x -> x.buy(0, part));
            }
        }
        Unchanged.noState("one on loan", Pools::busy, x -> x.buy(2, 2));
        SparePool pool = Pools.busy();
        pool.buy(6, 2);
        Check.noState("a second time", () -> pool.buy(6, 2));
    }

    private static void buyReturns() {
        Check.says("Returns the parts of the unit then, as bits");
        for (int h = 0; h <= 4; h++) {
            SparePool pool = Pools.with(10 * h);
            Check.due("part 2", pool.buy(0, 2), 4);
            Check.due("part 0", pool.buy(0, 0), 5);
            Check.due("not usable yet", pool.about(2), 0);
            Check.due("part 1", pool.buy(0, 1), 7);
            Check.due("usable", pool.about(2), 1);
            Check.due("its owner paid", pool.holder(h, 0), -60);
            Check.due("to the outside", pool.about(9), 60);
            Check.due("it is not taken", pool.about(7), 0);
            Check.due("none is owed", pool.about(6), 0);
        }
    }
}
