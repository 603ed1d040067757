/** Promises 1 and 6 to 11: a new object, about, unit, holder, owed, core, setting. */
public final class LookTest {
    public static void main(String[] args) {
        aNewObject();
        aboutTellsTenNumbers();
        unitTellsSixNumbers();
        holderTellsSevenNumbers();
        owedTellsOneSort();
        coreTellsTheOldestFirst();
        settingTellsThree();
        whatDoesNotExist();
        Check.finish("LookTest");
    }

    private static void aNewObject() {
        SparePool pool = new SparePool();
        for (int what = 0; what <= 9; what++) {
            Check.due("about " + what, pool.about(what), 0);
        }
        for (int h = 0; h <= 4; h++) {
            for (int what = 0; what <= 6; what++) {
                Check.due("holder " + what, pool.holder(h, what), 0);
            }
            Check.due("core", pool.core(h, 0, 0), -1);
            Check.due("owed", pool.owed(h, (h + 1) % 5, 0, 0), 0);
        }
        Check.due("setting 0", pool.setting(0), 5);
        Check.due("setting 1", pool.setting(1), 100);
        Check.due("setting 2", pool.setting(2), 20);
        Check.noIndex("unit 0", () -> pool.unit(0, 0));
        Check.noState("undo", () -> pool.undo());
        Check.noState("restore 0", () -> pool.restore(0));
        Check.noState("restore 1", () -> pool.restore(1));
        Check.due("length", pool.clearText(), 0);
        Check.due("NONE", SparePool.NONE, -1);
    }

    /** Day 6: unit 0 lent 1 to 2, due 5; 1 exchanged for 2; 3 in advance; a part taken from 4 for 5. */
    private static SparePool busy() {
        SparePool pool = new SparePool();
        pool.come(0, 1, 7);
        pool.come(1, 3, 3);
        pool.come(1, 4, 7);
        pool.come(2, 4, 7);
        pool.come(2, 0, 5);
        pool.come(2, 2, 2);
        pool.lend(0, 2, 5);
        pool.exchange(1, 2);
        pool.advance(1, 3, 8);
        pool.lend(4, 2, 7);
        pool.days(6);
        pool.take(4, 5, 0);
        pool.buy(1, 2);
        return pool;
    }

    private static void aboutTellsTenNumbers() {
        SparePool pool = busy();
        int[] want = {6, 6, 4, 2, 1, 1, 1, 1, 2, 20};
        for (int what = 0; what <= 9; what++) {
            Check.due("about " + what, pool.about(what), want[what]);
        }
        Check.noArgument("about(-1)", () -> pool.about(-1));
        Check.noArgument("about(10)", () -> pool.about(10));
        Check.noArgument("about(min)", () -> pool.about(Integer.MIN_VALUE));
        pool.bring(0);
        Check.due("late ones", pool.about(4), 0);
        pool.days(1);
        Check.due("due today is not late", pool.about(4), 0);
        pool.days(1);
        Check.due("late", pool.about(4), 1);
        pool.take(5, 4, 0);
        Check.due("taken twice", pool.about(7), 2);
        Check.due("and cancelled", pool.about(6), 0);
        pool.take(5, 4, 1);
        Check.due("0 owes a part", pool.about(6), 1);
        Check.due("holder 0 owes it", pool.holder(0, 5), 1);
        Check.due("to holder 2", pool.holder(2, 6), 1);
    }

    private static void unitTellsSixNumbers() {
        SparePool pool = busy();
        int[][] want = {
            {0, 1, 2, 7, 5, 5}, {1, 4, 4, 7, -1, 0}, {1, 3, 3, 7, -1, 0},
            {2, 1, 1, 7, -1, 0}, {2, 0, 2, 4, 7, 0}, {2, 2, 2, 3, -1, 0}};
        for (int u = 0; u < 6; u++) {
            for (int what = 0; what <= 5; what++) {
                Check.due("unit " + u + " " + what, pool.unit(u, what), want[u][what]);
            }
        }
        Check.noIndex("unit(-1, 0)", () -> pool.unit(-1, 0));
        Check.noIndex("unit(6, 0)", () -> pool.unit(6, 0));
        Check.noIndex("unit(6, 9)", () -> pool.unit(6, 9));
        Check.noIndex("unit(max, 0)", () -> pool.unit(Integer.MAX_VALUE, 0));
        Check.noArgument("unit(5, -1)", () -> pool.unit(5, -1));
        Check.noArgument("unit(5, 6)", () -> pool.unit(5, 6));
        pool.set(0, 30);
        Check.due("fees follow the setting", pool.unit(0, 5), 30);
        pool.days(3);
        Check.due("fees follow the days", pool.unit(0, 5), 120);
        Check.due("another's fees", pool.unit(4, 5), 60);
    }

    private static void holderTellsSevenNumbers() {
        SparePool pool = busy();
        int[][] want = {
            {0, 1, 0, 0, 0, 0, 1}, {0, 2, 1, 0, 1, 0, 0}, {0, 1, 3, 2, 0, 1, 0},
            {-120, 1, 1, 0, 0, 0, 0}, {100, 1, 1, 0, 0, 0, 0}};
        for (int h = 0; h <= 4; h++) {
            for (int what = 0; what <= 6; what++) {
                Check.due("holder " + h + " " + what, pool.holder(h, what), want[h][what]);
            }
        }
        Check.noIndex("holder(-1, 0)", () -> pool.holder(-1, 0));
        Check.noIndex("holder(5, 0)", () -> pool.holder(5, 0));
        Check.noIndex("holder(5, 7)", () -> pool.holder(5, 7));
        Check.noArgument("holder(4, -1)", () -> pool.holder(4, -1));
        Check.noArgument("holder(4, 7)", () -> pool.holder(4, 7));
    }

    private static void owedTellsOneSort() {
        SparePool pool = busy();
        for (int h = 0; h <= 4; h++) {
            for (int other = 0; other <= 4; other++) {
                for (int sort = 0; sort < 9; sort++) {
                    int want = h == 2 && other == 0 && sort == 6 ? 1 : 0;
                    Check.due("owed " + h + " " + other + " " + sort, pool.owed(h, other, sort / 3, sort % 3), want);
                }
            }
        }
        Check.noIndex("owed(-1, 0, 0, 0)", () -> pool.owed(-1, 0, 0, 0));
        Check.noIndex("owed(5, 0, 0, 0)", () -> pool.owed(5, 0, 0, 0));
        Check.noIndex("owed(0, -1, 0, 0)", () -> pool.owed(0, -1, 0, 0));
        Check.noIndex("owed(0, 5, 0, 0)", () -> pool.owed(0, 5, 0, 0));
        Check.noIndex("owed(0, 1, -1, 0)", () -> pool.owed(0, 1, -1, 0));
        Check.noIndex("owed(0, 1, 3, 0)", () -> pool.owed(0, 1, 3, 0));
        Check.noIndex("owed(0, 1, 0, -1)", () -> pool.owed(0, 1, 0, -1));
        Check.noIndex("owed(0, 1, 0, 3)", () -> pool.owed(0, 1, 0, 3));
    }

    private static void coreTellsTheOldestFirst() {
        SparePool pool = new SparePool();
        for (int u = 0; u < 6; u++) {
            pool.come(u % 3, 4, 7);
        }
        pool.advance(2, 1, 9);
        pool.advance(2, 0, 3);
        pool.days(2);
        pool.advance(3, 2, 1);
        pool.advance(2, 4, 4);
        int[][] want = {{1, 9}, {0, 3}, {1, 6}, {-1, -1}};
        for (int k = 0; k < 4; k++) {
            Check.due("kind of core " + k, pool.core(2, k, 0), want[k][0]);
            Check.due("due day of core " + k, pool.core(2, k, 1), want[k][1]);
        }
        Check.due("another's kind", pool.core(3, 0, 0), 2);
        Check.due("another's day", pool.core(3, 0, 1), 3);
        Check.due("the pool's", pool.core(4, 0, 1), -1);
        Check.due("far more", pool.core(2, Integer.MAX_VALUE, 1), -1);
        Check.due("core 6", pool.core(2, 6, 1), -1);
        Check.noIndex("core(-1, 0, 0)", () -> pool.core(-1, 0, 0));
        Check.noIndex("core(5, 0, 0)", () -> pool.core(5, 0, 0));
        Check.noIndex("core(5, -1, 9)", () -> pool.core(5, -1, 9));
        Check.noArgument("core(2, -1, 0)", () -> pool.core(2, -1, 0));
        Check.noArgument("core(2, 0, -1)", () -> pool.core(2, 0, -1));
        Check.noArgument("core(2, 0, 2)", () -> pool.core(2, 0, 2));
        Check.noArgument("core(4, 0, 2)", () -> pool.core(4, 0, 2));
    }

    private static void settingTellsThree() {
        SparePool pool = new SparePool();
        pool.set(0, 99);
        pool.set(1, 999);
        pool.set(2, 0);
        Check.due("setting 0", pool.setting(0), 99);
        Check.due("setting 1", pool.setting(1), 999);
        Check.due("setting 2", pool.setting(2), 0);
        Check.noArgument("setting(-1)", () -> pool.setting(-1));
        Check.noArgument("setting(3)", () -> pool.setting(3));
    }

    private static void whatDoesNotExist() {
        SparePool pool = new SparePool();
        for (int u = 0; u < 16; u++) {
            pool.come(0, 0, 0);
        }
        Check.due("unit 15", pool.unit(15, 0), 0);
        Check.noIndex("unit 16", () -> pool.unit(16, 0));
        Check.noArgument("unit 15, 6", () -> pool.unit(15, 6));
    }
}
