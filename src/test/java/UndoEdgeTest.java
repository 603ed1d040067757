/** Promise 23 and the terms of actions and undo, sentence by sentence. */
public final class UndoEdgeTest {
    public static void main(String[] args) {
        noneIsRemembered();
        eachCallIsAnAction();
        alsoIfNothingBecomesDifferent();
        atMost14();
        howManyAreLeft();
        undoIsNone();
        theStateIsAllButTextAndSlots();
        loadAndRestoreAreNone();
        refusedOnesAreNone();
        Check.finish("UndoEdgeTest");
    }

    private static SparePool allUndone() {
        SparePool pool = Pools.busy();
        for (int i = 0; i < 14; i++) {
            pool.undo();
        }
        return pool;
    }

    private static void noneIsRemembered() {
        Check.says("Throws IllegalStateException if none is remembered");
        Unchanged.noState("undo of a new one", SparePool::new, SparePool::undo);
        Unchanged.noState("undo of one with text and a save", UndoEdgeTest::saved, SparePool::undo);
        Unchanged.noState("undo when all is undone", UndoEdgeTest::allUndone, SparePool::undo);
        Check.due("18 actions, 14 taken back: 4 units", allUndone().about(1), 4);
    }

    private static SparePool saved() {
        SparePool pool = Pools.text("Un047");
        pool.save(1);
        return pool;
    }

    private static void oneAction(String what, Unchanged.Make make, Unchanged.Act act) {
        SparePool pool = make.pool();
        String answer = Outcome.of(() -> act.on(pool));
        Check.due(what + " answers " + answer, answer.endsWith("Exception") ? 1 : 0, 0);
        Check.due("undo of " + what, pool.undo(), 13);
        Check.same("all as before " + what, Look.at(pool), Look.at(make.pool()));
    }

    private static void eachCallIsAnAction() {
        Check.says("Each call of one of them that does not throw an exception is an action");
        oneAction("come", Pools::busy, x -> x.come(2, 0, 3));
        oneAction("lend", Pools::busy, x -> x.lend(0, 1, 3));
        oneAction("bring", Pools::busy, x -> x.bring(2));
        oneAction("exchange", Pools::busy, x -> x.exchange(3, 0));
        oneAction("advance", Pools::busy, x -> x.advance(3, 7, 2));
        oneAction("deliver", Pools::busy, x -> x.deliver(8));
        for (int h = 0; h <= 3; h++) {
            int operator = h;
            oneAction("deliver of the oldest of some", () -> fiveCores(operator), x -> x.deliver(0));
            oneAction("deliver of another one of some", () -> fiveCores(operator), x -> x.deliver(1));
            oneAction("advance behind some", () -> fiveCores(operator), x -> x.advance(operator, 5, 25));
        }
        oneAction("take", Pools::busy, x -> x.take(4, 5, 2));
        oneAction("settle", Pools::busy, x -> x.settle(3, 1, 0, 1));
        oneAction("buy", Pools::busy, x -> x.buy(3, 1));
        oneAction("days", Pools::busy, x -> x.days(99));
        oneAction("set 0", Pools::busy, x -> x.set(0, 99));
        oneAction("set 1", Pools::busy, x -> x.set(1, 999));
        oneAction("set 2", Pools::busy, x -> x.set(2, 999));
    }

    private static SparePool fiveCores(int h) {
        SparePool pool = Pools.with(47, 147, 247, 47, 147, 247);
        for (int v = 0; v < 5; v++) {
            pool.advance(h, v, 3 + 4 * v);
        }
        for (int i = 0; i < 5; i++) {
            pool.days(1);
        }
        return pool;
    }

    private static void alsoIfNothingBecomesDifferent() {
        Check.says("also if nothing becomes different");
        oneAction("set 0 to the same", Pools::busy, x -> x.set(0, 5));
        oneAction("set 1 to the same", Pools::busy, x -> x.set(1, 90));
        oneAction("set 2 to the same", Pools::busy, x -> x.set(2, 20));
        SparePool pool = new SparePool();
        for (int i = 1; i <= 20; i++) {
            pool.set(2, 20);
        }
        for (int left = 13; left >= 0; left--) {
            Check.due("undo", pool.undo(), left);
        }
        Check.noState("no more", () -> pool.undo());
    }

    private static void atMost14() {
        Check.says("At most 14 states are remembered; when one more is remembered, the oldest one is forgotten");
        for (int actions = 1; actions <= 62; actions++) {
            SparePool pool = new SparePool();
            for (int i = 0; i < actions; i++) {
                pool.days(1);
            }
            int remembered = Math.min(14, actions);
            for (int i = 1; i <= remembered; i++) {
                Check.due("undo of " + actions, pool.undo(), remembered - i);
                Check.due("today", pool.about(0), actions - i);
            }
            Check.noState("the oldest ones are forgotten", () -> pool.undo());
            Check.due("today", pool.about(0), actions - remembered);
        }
    }

    private static void howManyAreLeft() {
        Check.says("Takes back the last action that is remembered. Returns how many states are still remembered");
        SparePool pool = new SparePool();
        int today = 0;
        int left = 0;
        for (int round = 0; round < 12; round++) {
            for (int i = 0; i < 5 + round; i++) {
                pool.days(1);
            }
            today += 5 + round;
            left = Math.min(14, left + 5 + round);
            for (int i = 0; i < 3; i++) {
                today--;
                left--;
                Check.due("undo", pool.undo(), left);
                Check.due("today", pool.about(0), today);
            }
        }
        while (left > 0) {
            today--;
            left--;
            Check.due("undo of the rest", pool.undo(), left);
            Check.due("today", pool.about(0), today);
        }
        Check.noState("no more", () -> pool.undo());
    }

    private static void undoIsNone() {
        Check.says("(undo is none)");
        SparePool pool = new SparePool();
        pool.days(1);
        pool.days(2);
        Check.due("the last", pool.undo(), 1);
        Check.due("the one before, and not the undo", pool.undo(), 0);
        Check.due("today", pool.about(0), 0);
        Check.noState("nothing to take back", () -> pool.undo());
        pool.days(9);
        Check.due("a new action", pool.undo(), 0);
        Check.due("today", pool.about(0), 0);
    }

    private static void theStateIsAllButTextAndSlots() {
        Check.says("the state, which consists of everything but the text and the save slots");
        SparePool pool = new SparePool();
        Pools.write(pool, "Un047");
        pool.days(1);
        pool.clearText();
        Pools.write(pool, "Ud9");
        pool.save(0);
        pool.days(1);
        pool.save(1);
        pool.undo();
        pool.undo();
        Check.due("today", pool.about(0), 0);
        Check.due("the text stays", pool.clearText(), 3);
        Check.due("slot 0 stays", pool.restore(0), 0);
        Check.due("its today", pool.about(0), 1);
        Check.due("slot 1 stays", pool.restore(1), 0);
        Check.due("its today", pool.about(0), 2);

        Check.says("text and slots: what changes them is no action");
        Unchanged.Act[] others = {x -> x.append('U'), SparePool::clearText, SparePool::errorPosition, x -> x.save(0),
            x -> x.save(1), x -> x.runScript(1, 500_001), x -> x.simulate(1, 99), SparePool::inDebt};
        for (Unchanged.Act other : others) {
            SparePool each = new SparePool();
            each.days(3);
            other.on(each);
            Check.due("undo", each.undo(), 0);
            Check.due("today", each.about(0), 0);
            other.on(each);
            Check.noState("nothing to take back", () -> each.undo());
        }
    }

    private static void loadAndRestoreAreNone() {
        Check.says("load and restore are not actions");
        SparePool pool = Pools.text("Ud4");
        pool.days(1);
        pool.load();
        Check.noState("behind load", () -> pool.undo());
        pool.save(0);
        pool.days(1);
        pool.restore(0);
        Check.noState("behind restore", () -> pool.undo());
        for (int i = 1; i <= 15; i++) {
            pool.days(1);
        }
        for (int left = 13; left >= 0; left--) {
            Check.due("undo behind both", pool.undo(), left);
        }
        Check.due("today", pool.about(0), 5);
    }

    private static void refusedOnesAreNone() {
        Check.says("A call that throws an exception changes nothing (not what is remembered either)");
        for (int actions = 0; actions <= 16; actions++) {
            SparePool pool = new SparePool();
            for (int i = 0; i < actions; i++) {
                pool.days(1);
                Check.noState("settle", () -> pool.settle(0, 1, 0, 0));
                Check.noArgument("days", () -> pool.days(100));
                Check.noIndex("come", () -> pool.come(3, 0, 0));
                Check.noState("load", () -> pool.load());
                Check.noState("restore", () -> pool.restore(0));
                Check.noIndex("restore", () -> pool.restore(2));
            }
            int remembered = Math.min(14, actions);
            for (int i = 1; i <= remembered; i++) {
                Check.due("undo of " + actions, pool.undo(), remembered - i);
                Check.due("today", pool.about(0), actions - i);
            }
            Check.noState("no more", () -> pool.undo());
            Check.noState("and no more", () -> pool.undo());
        }
    }
}
