/** Promise 23: undo, and which states are remembered. */
public final class UndoTest {
    public static void main(String[] args) {
        undoTakesBackOneByOne();
        fourteenAreRemembered();
        everyActionIsRemembered();
        undoIsNoAction();
        refusedActionsForgetNothing();
        theTextAndTheSlotsStay();
        Check.finish("UndoTest");
    }

    private static void undoTakesBackOneByOne() {
        SparePool pool = new SparePool();
        Check.noState("none", () -> pool.undo());
        pool.days(1);
        pool.days(2);
        pool.days(3);
        Check.due("undo", pool.undo(), 2);
        Check.due("today", pool.about(0), 3);
        Check.due("undo", pool.undo(), 1);
        Check.due("today", pool.about(0), 1);
        pool.days(9);
        Check.due("undo", pool.undo(), 1);
        Check.due("today", pool.about(0), 1);
        Check.due("undo", pool.undo(), 0);
        Check.due("today", pool.about(0), 0);
        Check.noState("none left", () -> pool.undo());
        Check.due("today", pool.about(0), 0);
    }

    private static void fourteenAreRemembered() {
        for (int actions = 13; actions <= 45; actions++) {
            SparePool pool = new SparePool();
            for (int i = 0; i < actions; i++) {
                pool.days(1);
            }
            int remembered = Math.min(actions, 14);
            for (int i = 1; i <= remembered; i++) {
                Check.due("undo of " + actions, pool.undo(), remembered - i);
                Check.due("today", pool.about(0), actions - i);
            }
            Check.noState("no more", () -> pool.undo());
        }
    }

    private static void everyActionIsRemembered() {
        SparePool pool = new SparePool();
        Check.Call[] actions = {
            () -> pool.come(0, 4, 7), () -> pool.come(0, 1, 3), () -> pool.come(0, 4, 7),
            () -> pool.lend(1, 2, 3), () -> pool.bring(1), () -> pool.exchange(1, 0),
            () -> pool.advance(1, 2, 9), () -> pool.take(0, 1, 2), () -> pool.deliver(0)};
        // The take above is refused: its units are at different places.
        int done = 0;
        for (Check.Call action : actions) {
            done += Outcome.of(action).startsWith("Ill") ? 0 : 1;
        }
        Check.due("done", done, 8);
        Check.due("days", pool.days(1), 1);
        Check.due("buy", pool.buy(1, 2), 7);
        Check.due("set", pool.set(2, 8), 20);
        for (int left = 10; left >= 0; left--) {
            Check.due("undo", pool.undo(), left);
        }
        Check.same("as new", Look.at(pool), Look.at(new SparePool()));
        takesAndSettlesAreRemembered();
    }

    private static void takesAndSettlesAreRemembered() {
        SparePool pool = new SparePool();
        pool.come(0, 1, 7);
        pool.come(0, 2, 0);
        pool.lend(1, 1, 3);
        pool.take(0, 1, 2);
        pool.settle(2, 1, 0, 2);
        Check.due("undo the settling", pool.undo(), 4);
        Check.due("owed again", pool.owed(2, 1, 0, 2), 1);
        Check.due("paid back", pool.holder(1, 0), 0);
        Check.due("undo the taking", pool.undo(), 3);
        Check.due("owed no more", pool.owed(2, 1, 0, 2), 0);
        Check.due("part is back", pool.unit(0, 3), 7);
        Check.due("not counted", pool.about(7), 0);
        Check.due("undo the lending", pool.undo(), 2);
        Check.due("place", pool.unit(1, 2), 2);
        Check.due("no due day", pool.unit(1, 4), -1);
    }

    private static void undoIsNoAction() {
        SparePool pool = new SparePool();
        pool.set(1, 7);
        pool.set(1, 8);
        pool.undo();
        Check.due("price", pool.setting(1), 7);
        pool.undo();
        Check.due("price at first", pool.setting(1), 100);
        Check.noState("nothing to take back", () -> pool.undo());
    }

    private static void refusedActionsForgetNothing() {
        SparePool pool = new SparePool();
        for (int i = 0; i < 20; i++) {
            pool.days(1);
            Check.noState("refused", () -> pool.settle(0, 1, 0, 0));
            Check.noArgument("refused", () -> pool.days(0));
            Check.noIndex("refused", () -> pool.bring(0));
        }
        for (int left = 13; left >= 0; left--) {
            Check.due("undo", pool.undo(), left);
        }
        Check.due("today", pool.about(0), 6);
    }

    private static void theTextAndTheSlotsStay() {
        SparePool pool = new SparePool();
        pool.days(1);
        pool.append('U');
        pool.save(0);
        Check.due("undo", pool.undo(), 0);
        Check.due("text", pool.clearText(), 1);
        Check.due("slot", pool.restore(0), 0);
        Check.due("what was saved", pool.about(0), 1);
        pool.days(1);
        pool.clearText();
        pool.append('U');
        pool.runScript(1, 500001);
        pool.simulate(1, 9);
        pool.save(1);
        Check.due("none of these is remembered", pool.undo(), 0);
    }
}
