/** Promise 23: undo, and which states are remembered. */
public final class UndoTest {
    public static void main(String[] args) {
        undoTakesBackOneByOne();
        fourteenAreRemembered();
        everyActionIsRemembered();
        undoIsNoAction();
        refusedActionsForgetNothing();
        theTextAndTheSlotsStay();
        Check.finish("UndoTest");
    }

    private static void undoTakesBackOneByOne() {
        SparePool pool = new SparePool();
        Check.noState("none", () -> pool.undo());
        pool.days(1);
        pool.days(2);
        pool.days(3);
        Check.due("undo", pool.undo(), 2);
        Check.due("today", pool.about(0), 3);
        Check.due("undo", pool.undo(), 1);
        Check.due("today", pool.about(0), 1);
        pool.days(9);
        Check.due("undo", pool.undo(), 1);
        Check.due("today", pool.about(0), 1);
        Check.due("undo", pool.undo(), 0);
        Check.due("today", pool.about(0), 0);
        Check.noState("none left", () -> pool.undo());
        Check.due("today", pool.about(0), 0);
    }

    private static void fourteenAreRemembered() {
        for (int actions = 13; actions <= 45; actions++) {
            SparePool pool = new SparePool();
            for (int i = 0; i < actions; i++) {
                pool.days(1);
            }
            int remembered = Math.min(actions, 14);
            for (int i = 1; i <= remembered; i++) {
                Check.due("undo of " + actions, pool.undo(), remembered - i);
                Check.due("today", pool.about(0), actions - i);
            }
            Check.noState("no more", () -> pool.undo());
        }
    }

    private static final Calls.Call[] EVERY_ACTION = {
        new Calls.Call("come", 0, 4, 7), new Calls.Call("come", 0, 1, 3), new Calls.Call("come", 0, 4, 7),
        new Calls.Call("lend", 1, 2, 3), new Calls.Call("bring", 1), new Calls.Call("exchange", 1, 0),
        new Calls.Call("advance", 1, 2, 9), new Calls.Call("come", 0, 3, 0), new Calls.Call("lend", 3, 1, 2),
        new Calls.Call("take", 0, 3, 2), new Calls.Call("settle", 3, 1, 0, 2), new Calls.Call("deliver", 0),
        new Calls.Call("buy", 1, 2), new Calls.Call("days", 5), new Calls.Call("set", 2, 8),
        new Calls.Call("bring", 3)};

    private static SparePool after(int actions) {
        SparePool pool = new SparePool();
        for (int i = 0; i < actions; i++) {
            String answer = Calls.answer(pool, EVERY_ACTION[i]);
            Check.due(EVERY_ACTION[i].text() + " is done", answer.endsWith("Exception") ? 0 : 1, 1);
        }
        return pool;
    }

    private static void everyActionIsRemembered() {
        for (int actions = 1; actions <= EVERY_ACTION.length; actions++) {
            SparePool pool = after(actions);
            int remembered = Math.min(actions, 14);
            Check.due("undo", pool.undo(), remembered - 1);
            Check.same("undo of " + EVERY_ACTION[actions - 1].text(), Look.at(pool), Look.at(after(actions - 1)));
        }
        SparePool pool = after(EVERY_ACTION.length);
        for (int left = 13; left >= 0; left--) {
            Check.due("undo", pool.undo(), left);
        }
        Check.same("all taken back", Look.at(pool), Look.at(after(EVERY_ACTION.length - 14)));
    }

    private static void undoIsNoAction() {
        SparePool pool = new SparePool();
        pool.set(1, 7);
        pool.set(1, 8);
        pool.undo();
        Check.due("price", pool.setting(1), 7);
        pool.undo();
        Check.due("price at first", pool.setting(1), 100);
        Check.noState("nothing to take back", () -> pool.undo());
    }

    private static void refusedActionsForgetNothing() {
        SparePool pool = new SparePool();
        for (int i = 0; i < 20; i++) {
            pool.days(1);
            Check.noState("refused", () -> pool.settle(0, 1, 0, 0));
            Check.noArgument("refused", () -> pool.days(0));
            Check.noIndex("refused", () -> pool.bring(0));
        }
        for (int left = 13; left >= 0; left--) {
            Check.due("undo", pool.undo(), left);
        }
        Check.due("today", pool.about(0), 6);
    }

    private static void theTextAndTheSlotsStay() {
        SparePool pool = new SparePool();
        pool.days(1);
        pool.append('U');
        pool.save(0);
        Check.due("undo", pool.undo(), 0);
        Check.due("text", pool.clearText(), 1);
        Check.due("slot", pool.restore(0), 0);
        Check.due("what was saved", pool.about(0), 1);
        pool.days(1);
        pool.clearText();
        pool.append('U');
        pool.runScript(1, 500001);
        pool.simulate(1, 9);
        pool.save(1);
        Check.due("none of these is remembered", pool.undo(), 0);
    }
}
