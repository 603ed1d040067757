/** Promises 32 and 33: save, restore. */
public final class SlotTest {
    public static void main(String[] args) {
        slotsThatDoNotExist();
        restoreBringsBackAll();
        theSlotKeepsItsState();
        restoreForgetsWhatIsRemembered();
        coresAndDebtsComeBack();
        saveIsNoAction();
        loadEmptiesTheSlots();
        Check.finish("SlotTest");
    }

    private static void slotsThatDoNotExist() {
        SparePool pool = new SparePool();
        Check.noIndex("save(-1)", () -> pool.save(-1));
        Check.noIndex("save(2)", () -> pool.save(2));
        Check.noIndex("restore(-1)", () -> pool.restore(-1));
        Check.noIndex("restore(2)", () -> pool.restore(2));
        Check.noState("restore(0)", () -> pool.restore(0));
        Check.noState("restore(1)", () -> pool.restore(1));
        Check.due("save(1)", pool.save(1), 0);
        Check.noState("restore(0) still", () -> pool.restore(0));
        Check.due("restore(1)", pool.restore(1), 0);
    }

    private static SparePool busy() {
        SparePool pool = new SparePool();
        pool.come(0, 4, 7);
        pool.come(0, 4, 7);
        pool.come(0, 1, 3);
        pool.come(2, 2, 6);
        pool.come(0, 0, 6);
        pool.set(0, 8);
        pool.set(1, 77);
        pool.set(2, 9);
        pool.advance(0, 0, 5);
        pool.exchange(2, 1);
        pool.lend(1, 0, 3);
        pool.take(1, 4, 0);
        pool.buy(3, 0);
        pool.days(7);
        return pool;
    }

    private static void restoreBringsBackAll() {
        SparePool pool = busy();
        Check.due("save", pool.save(0), 5);
        pool.come(1, 0, 0);
        pool.bring(1);
        pool.deliver(0);
        pool.set(0, 1);
        pool.set(1, 2);
        pool.set(2, 3);
        pool.buy(5, 1);
        pool.days(9);
        Check.due("restore", pool.restore(0), 5);
        Check.same("as it was saved", Look.at(pool), Look.at(busy()));
    }

    private static void theSlotKeepsItsState() {
        SparePool pool = new SparePool();
        pool.come(0, 0, 0);
        pool.save(0);
        pool.come(0, 0, 0);
        pool.save(1);
        Check.due("restore(0)", pool.restore(0), 1);
        pool.buy(0, 0);
        Check.due("restore(0) again", pool.restore(0), 1);
        Check.due("no part", pool.unit(0, 3), 0);
        Check.due("restore(1)", pool.restore(1), 2);
        pool.days(3);
        Check.due("save over it", pool.save(0), 2);
        pool.days(3);
        Check.due("restore the new one", pool.restore(0), 2);
        Check.due("today", pool.about(0), 3);
        Check.due("restore(1) again", pool.restore(1), 2);
        Check.due("today", pool.about(0), 0);
    }

    private static void restoreForgetsWhatIsRemembered() {
        SparePool pool = new SparePool();
        pool.days(1);
        pool.save(0);
        pool.days(1);
        Check.noState("an empty slot", () -> pool.restore(1));
        Check.noIndex("no slot", () -> pool.restore(3));
        Check.due("undo still", pool.undo(), 1);
        pool.restore(0);
        Check.noState("nothing remembered", () -> pool.undo());
        pool.days(5);
        Check.due("undo to what was restored", pool.undo(), 0);
        Check.due("today", pool.about(0), 1);
    }

    private static void coresAndDebtsComeBack() {
        SparePool pool = new SparePool();
        for (int u = 0; u < 8; u++) {
            pool.come(u % 2, 4, 7);
        }
        pool.come(2, 3, 0);
        pool.come(2, 0, 7);
        pool.lend(8, 0, 2);
        pool.take(9, 8, 1);
        for (int h = 0; h < 4; h++) {
            pool.advance(h, h, 1 + h);
        }
        pool.save(0);
        for (int h = 0; h < 4; h++) {
            pool.deliver(h);
            pool.advance(h, h + 4 ^ 1, 11 + h);
        }
        pool.settle(3, 0, 2, 1);
        Check.due("restore", pool.restore(0), 10);
        for (int h = 0; h < 4; h++) {
            Check.due("kind of the core", pool.core(h, 0, 0), h % 2);
            Check.due("its day", pool.core(h, 0, 1), 1 + h);
        }
        Check.due("the debt", pool.owed(3, 0, 2, 1), 1);
        Check.due("the account", pool.holder(3, 0), 0);
    }

    private static void saveIsNoAction() {
        SparePool pool = new SparePool();
        pool.days(1);
        pool.save(0);
        pool.save(1);
        Check.due("undo", pool.undo(), 0);
        Check.due("today", pool.about(0), 0);
    }

    private static void loadEmptiesTheSlots() {
        SparePool pool = new SparePool();
        pool.save(0);
        pool.save(1);
        pool.append('U');
        pool.load();
        Check.noState("restore(0)", () -> pool.restore(0));
        Check.noState("restore(1)", () -> pool.restore(1));
        pool.save(1);
        Check.noState("restore(0) still", () -> pool.restore(0));
        Check.due("restore(1)", pool.restore(1), 0);
    }
}
