/** Promises 32 and 33, save and restore, sentence by sentence. */
public final class SlotEdgeTest {
    private static final int[] NO_SLOT = {-1, 2, 3, Integer.MIN_VALUE, Integer.MAX_VALUE};

    public static void main(String[] args) {
        saveWhich();
        saveReturns();
        saveIsNoAction();
        restoreWhich();
        nothingSaved();
        nothingSavedSinceTheLastLoad();
        restoreReplacesTheState();
        coresComeBack();
        debtsAndMoneyComeBack();
        restoreForgets();
        theSlotKeepsIt();
        theTextIsNoState();
        Check.finish("SlotEdgeTest");
    }

    private static void saveWhich() {
        Check.says("slot: 0 or 1. Throws IndexOutOfBoundsException if there is no such save slot (save)");
        for (int slot : NO_SLOT) {
            Unchanged.noIndex("save(" + slot + ")", Pools::busy, x -> x.save(slot));
            Unchanged.noIndex("save(" + slot + ") of a new one", SparePool::new, x -> x.save(slot));
        }
        Check.due("save(0)", Pools.busy().save(0), 9);
        Check.due("save(1)", Pools.busy().save(1), 9);
    }

    private static void saveReturns() {
        Check.says("Stores the present state in a save slot. Returns the number of units");
        SparePool pool = new SparePool();
        for (int units = 0; units <= 16; units++) {
            Check.due("save", pool.save(units % 2), units);
            if (units < 16) {
                pool.come(0, 0, 0);
            }
        }
        Check.due("the present one in 0", pool.restore(0), 16);
        Check.due("the one before in 1", pool.restore(1), 15);
    }

    private static void saveIsNoAction() {
        Check.says("save is no action, and leaves the state");
        SparePool pool = Pools.busy();
        pool.save(1);
        Check.same("the state", Look.at(pool), Look.at(Pools.busy()));
        SparePool fourteen = new SparePool();
        for (int i = 0; i < 14; i++) {
            fourteen.days(1);
            fourteen.save(i % 2);
        }
        for (int left = 13; left >= 0; left--) {
            Check.due("undo", fourteen.undo(), left);
        }
        Check.noState("no more", () -> fourteen.undo());
    }

    private static void restoreWhich() {
        Check.says("slot: 0 or 1. Throws IndexOutOfBoundsException if there is no such save slot (restore)");
        for (int slot : NO_SLOT) {
            Unchanged.noIndex("restore(" + slot + ")", Pools::busy, x -> x.restore(slot));
            Unchanged.noIndex("restore(" + slot + ") of a new one", SparePool::new, x -> x.restore(slot));
        }
    }

    private static void nothingSaved() {
        Check.says("Throws IllegalStateException if nothing has been saved in it");
        Unchanged.noState("restore(1)", Pools::busy, x -> x.restore(1));
        Unchanged.noState("restore(0) of a new one", SparePool::new, x -> x.restore(0));
        Unchanged.noState("restore(1) of a new one", SparePool::new, x -> x.restore(1));
        SparePool pool = new SparePool();
        pool.save(1);
        Check.noState("0 when 1 is saved", () -> pool.restore(0));
        Check.due("1", pool.restore(1), 0);
        Check.noState("0 still", () -> pool.restore(0));
        pool.save(0);
        Check.due("0 then", pool.restore(0), 0);
    }

    private static SparePool loaded() {
        SparePool pool = Pools.busy();
        pool.save(1);
        pool.load();
        pool.days(2);
        return pool;
    }

    private static void nothingSavedSinceTheLastLoad() {
        Check.says("since the last load");
        Unchanged.noState("0 behind load", SlotEdgeTest::loaded, x -> x.restore(0));
        Unchanged.noState("1 behind load", SlotEdgeTest::loaded, x -> x.restore(1));
        SparePool pool = loaded();
        Check.due("saved anew", pool.save(0), 1);
        Check.due("restored", pool.restore(0), 1);
        Check.due("today", pool.about(0), 11);
        Check.noState("1 still", () -> pool.restore(1));
        SparePool refused = Pools.busy();
        refused.append('!');
        Check.noState("a load that is refused", () -> refused.load());
        Check.due("empties no slot", refused.restore(0), 9);
    }

    private static void restoreReplacesTheState() {
        Check.says("Replaces the state by the one in a save slot. Returns the number of units then");
        for (int slot = 0; slot <= 1; slot++) {
            SparePool pool = Pools.busy();
            pool.save(slot);
            pool.come(1, 1, 1);
            pool.bring(2);
            pool.bring(4);
            pool.exchange(3, 0);
            pool.deliver(8);
            pool.advance(0, 7, 9);
            pool.settle(3, 1, 0, 1);
            pool.buy(1, 2);
            pool.set(0, 0);
            pool.set(1, 0);
            pool.set(2, 0);
            pool.days(99);
            Check.due("restore", pool.restore(slot), 9);
            Check.same("as it was saved", Look.at(pool), Look.at(Pools.busy()));
        }
        SparePool units = new SparePool();
        units.save(0);
        for (int u = 0; u < 16; u++) {
            units.come(2, 4, 7);
        }
        units.save(1);
        Check.due("no unit", units.restore(0), 0);
        Check.noIndex("none is there", () -> units.unit(0, 0));
        Check.due("all units", units.restore(1), 16);
        Check.noState("no 17th", () -> units.come(0, 0, 0));
        Check.due("the last one", units.unit(15, 0), 2);
        SparePool same = Pools.busy();
        same.save(1);
        same.restore(1);
        Check.same("the present state", Look.at(same), Look.at(Pools.busy()));
    }

    private static void coresComeBack() {
        Check.says("Replaces the state (all cores of all operators)");
        for (int h = 0; h <= 3; h++) {
            SparePool pool = Pools.with(47, 147, 247, 47, 147, 247);
            for (int v = 0; v < 6; v++) {
                pool.advance(h, v, 7 + v);
            }
            pool.save(0);
            for (int v = 0; v < 6; v++) {
                pool.deliver(v);
            }
            for (int v = 5; v >= 0; v--) {
                pool.advance(h, v, 30 - v);
            }
            pool.restore(0);
            for (int k = 0; k < 6; k++) {
                Check.due("the kind of core " + k, pool.core(h, k, 0), k % 3);
                Check.due("the day of core " + k, pool.core(h, k, 1), 7 + k);
            }
        }
    }

    private static void debtsAndMoneyComeBack() {
        Check.says("Replaces the state (all debts of parts and all accounts)");
        for (int i = 0; i < 225; i++) {
            int h = i / 45;
            int other = i / 9 % 5;
            int kind = i / 3 % 3;
            int part = i % 3;
            SparePool pool = Pools.with(100 * kind + 10 * other + 7, 100 * kind + 10 * h);
            if (h != other) {
                pool.lend(0, h, 1);
                pool.take(0, 1, part);
                pool.save(1);
                pool.settle(h, other, kind, part);
                pool.restore(1);
                Check.due("owed", pool.owed(h, other, kind, part), 1);
                Check.due("in all", pool.about(6), 1);
                Check.due("who paid", pool.holder(h, 0), 0);
                Check.due("who got it", pool.holder(other, 0), 0);
                pool.settle(h, other, kind, part);
                pool.undo();
                Check.due("owed again", pool.owed(h, other, kind, part), 1);
                Check.due("in all", pool.about(6), 1);
                Check.due("who paid", pool.holder(h, 0), 0);
                Check.due("who got it", pool.holder(other, 0), 0);
            }
        }
    }

    private static void restoreForgets() {
        Check.says("and forgets all remembered states");
        for (int actions = 0; actions <= 16; actions++) {
            SparePool pool = new SparePool();
            pool.save(0);
            for (int i = 0; i < actions; i++) {
                pool.days(1);
            }
            pool.restore(0);
            Check.noState("undo", () -> pool.undo());
            Check.due("today", pool.about(0), 0);
            for (int i = 0; i < 15; i++) {
                pool.days(1);
            }
            for (int left = 13; left >= 0; left--) {
                Check.due("undo", pool.undo(), left);
            }
            Check.due("today", pool.about(0), 1);
        }
    }

    private static void theSlotKeepsIt() {
        Check.says("The save slot keeps it");
        SparePool pool = Pools.busy();
        for (int i = 0; i < 5; i++) {
            Check.due("restore", pool.restore(0), 9);
            Check.due("today", pool.about(0), 0);
            Check.due("not lent on", pool.unit(4, 2), 3);
            pool.bring(4);
            pool.days(9);
            pool.take(0, 1, 2);
        }
        SparePool undone = new SparePool();
        undone.days(1);
        undone.save(0);
        undone.undo();
        undone.save(1);
        Check.due("0 keeps what is undone", undone.restore(0), 0);
        Check.due("today", undone.about(0), 1);
        undone.restore(1);
        Check.due("1 does not have it", undone.about(0), 0);
        undone.days(5);
        undone.save(0);
        undone.days(5);
        undone.restore(0);
        Check.due("the newer one", undone.about(0), 5);
    }

    private static void theTextIsNoState() {
        Check.says("the state, which consists of everything but the text and the save slots (save, restore)");
        SparePool pool = Pools.text("Ud1");
        pool.save(0);
        pool.clearText();
        Pools.write(pool, "Ud");
        pool.days(3);
        pool.save(1);
        pool.restore(0);
        Check.due("the text stays", pool.errorPosition(), 2);
        Check.due("the other slot stays", pool.restore(1), 0);
        Check.due("its today", pool.about(0), 3);
        Check.due("length", pool.clearText(), 2);
    }
}
