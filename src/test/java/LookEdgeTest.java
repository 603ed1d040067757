/** Promises 1 and 6 to 11, sentence by sentence. */
public final class LookEdgeTest {
    private static final int MIN = Integer.MIN_VALUE;
    private static final int MAX = Integer.MAX_VALUE;

    public static void main(String[] args) {
        aNewObject();
        aboutWhat();
        aboutUnits();
        aboutLoans();
        aboutWhatIsOwed();
        aboutWhatHappened();
        unitThatIsThere();
        unitNumbers();
        holderWhat();
        holderNumbers();
        owedWhom();
        coreWhich();
        settingWhat();
        lookingChangesNothing();
        Check.finish("LookEdgeTest");
    }

    private static void aNewObject() {
        Check.says("Creates a pool without units");
        SparePool pool = new SparePool();
        for (int what = 0; what <= 9; what++) {
            Check.due("about " + what, pool.about(what), 0);
        }
        for (int h = 0; h <= 4; h++) {
            for (int what = 0; what <= 6; what++) {
                Check.due("holder " + h + " " + what, pool.holder(h, what), 0);
            }
            for (int i = 0; i < 45; i++) {
                Check.due("owed", pool.owed(h, i / 9, i / 3 % 3, i % 3), 0);
            }
            Check.due("core", pool.core(h, 0, 0), -1);
            Check.due("core's day", pool.core(h, 0, 1), -1);
        }
        Check.noIndex("unit 0", () -> pool.unit(0, 0));
        Check.noState("nothing to undo", () -> pool.undo());
        Check.noState("nothing saved in 0", () -> pool.restore(0));
        Check.noState("nothing saved in 1", () -> pool.restore(1));
        Check.due("no text", pool.errorPosition(), 0);
        Check.noState("no pool as a text", () -> pool.load());
        Check.due("length", pool.clearText(), 0);
    }

    private static void aboutWhat() {
        Check.says("Throws IllegalArgumentException if what is not 0 to 9");
        int[] wrong = {-1, 10, MIN, MAX};
        for (int what : wrong) {
            Unchanged.noArgument("about(" + what + ")", Pools::busy, x -> x.about(what));
            Unchanged.noArgument("about(" + what + ") of a new one", SparePool::new, x -> x.about(what));
        }
        SparePool pool = Pools.busy();
        int[] want = {5, 9, 4, 2, 1, 1, 1, 2, 1, 20};
        for (int what = 0; what <= 9; what++) {
            Check.due("about(" + what + ")", pool.about(what), want[what]);
        }
    }

    private static void aboutUnits() {
        Check.says("about: 1: the units; 2: the usable ones");
        SparePool pool = new SparePool();
        for (int u = 0; u < 16; u++) {
            Check.due("units", pool.about(1), u);
            Check.due("usable ones", pool.about(2), (u + 1) / 2);
            pool.come(u % 3, u % 5, u % 2 == 0 ? 7 : u % 7);
        }
        Check.due("all units", pool.about(1), 16);
        Check.due("half of them usable", pool.about(2), 8);
        Check.due("all usable", Pools.sixteen(7).about(2), 16);
        Check.due("none usable", Pools.sixteen(6).about(2), 0);
    }

    private static void aboutLoans() {
        Check.says("about: 3: those that are not free (on loan)");
        SparePool pool = Pools.sixteen(17);
        for (int u = 0; u < 16; u++) {
            Check.due("on loan", pool.about(3), u);
            pool.lend(u, u % 2 == 0 ? 0 : 4, 1 + u);
        }
        Check.due("all on loan", pool.about(3), 16);

        Check.says("about: 4: those on loan whose due day is less than today");
        for (int today = 1; today <= 17; today++) {
            pool.days(1);
            Check.due("late ones on day " + today, pool.about(4), today - 1);
        }
        Check.due("all late", pool.about(4), 16);
        pool.bring(0);
        Check.due("brought back", pool.about(4), 15);
        Check.due("not on loan", pool.about(3), 15);
        SparePool free = Pools.with(17);
        free.lend(0, 2, 1);
        free.bring(0);
        free.days(9);
        Check.due("a free one is never late", free.about(4), 0);
    }

    private static void aboutWhatIsOwed() {
        Check.says("about: 5: the cores that are owed");
        SparePool pool = Pools.sixteen(47);
        for (int v = 0; v < 16; v++) {
            Check.due("cores", pool.about(5), v);
            pool.advance(v / 6, v, 1);
        }
        Check.due("all cores", pool.about(5), 16);
        pool.deliver(15);
        Check.due("one delivered", pool.about(5), 15);

        Check.says("about: 6: the parts that are owed, of all holders");
        SparePool debts = Pools.with(7, 17, 27, 30);
        debts.lend(0, 3, 1);
        debts.lend(1, 3, 1);
        debts.lend(2, 3, 1);
        Check.due("none", debts.about(6), 0);
        debts.take(0, 3, 0);
        debts.take(1, 3, 1);
        debts.take(2, 3, 2);
        Check.due("of one to three", debts.about(6), 3);
        debts.take(2, 0, 0);
        Check.due("of two", debts.about(6), 4);
        debts.settle(3, 0, 0, 0);
        Check.due("one settled", debts.about(6), 3);
        debts.take(3, 2, 2);
        Check.due("one cancelled", debts.about(6), 2);
    }

    private static void aboutWhatHappened() {
        Check.says("about: 7: how often a part was taken so far");
        SparePool parts = Pools.with(7, 0);
        parts.take(0, 1, 0);
        parts.take(1, 0, 0);
        parts.take(0, 1, 2);
        Check.due("own ones count", parts.about(7), 3);
        parts.buy(0, 2);
        Check.due("bought ones do not", parts.about(7), 3);
        parts.undo();
        parts.undo();
        Check.due("taken back", parts.about(7), 2);

        Check.says("about: 8: the exchanges so far, at once or in advance (counted when advance() is called)");
        SparePool pool = Pools.with(47, 47, 10);
        pool.advance(1, 0, 1);
        Check.due("in advance", pool.about(8), 1);
        pool.deliver(2);
        Check.due("not again with the core", pool.about(8), 1);
        pool.exchange(0, 1);
        Check.due("at once", pool.about(8), 2);

        Check.says("about: 9: what was paid to the outside so far");
        SparePool bought = Pools.with(0, 10);
        bought.buy(0, 0);
        bought.set(2, 999);
        bought.buy(1, 1);
        Check.due("by all", bought.about(9), 1019);
        bought.set(2, 0);
        bought.buy(1, 2);
        Check.due("nothing more for 0", bought.about(9), 1019);

        Check.says("about: 0: today");
        pool.days(99);
        Check.due("today", pool.about(0), 99);
    }

    private static void unitThatIsThere() {
        Check.says("Throws IndexOutOfBoundsException if there is no such unit (unit)");
        int[] wrong = {-1, 9, 15, 16, MIN, MAX};
        for (int u : wrong) {
            Unchanged.noIndex("unit(" + u + ", 0)", Pools::busy, x -> x.unit(u, 0));
        }
        Unchanged.noIndex("unit(0, 0) of none", SparePool::new, x -> x.unit(0, 0));
        SparePool pool = new SparePool();
        for (int u = 0; u <= 15; u++) {
            int next = u;
            Check.noIndex("before it comes", () -> pool.unit(next, 0));
            pool.come(2, 0, 0);
            Check.due("behind it", pool.unit(u, 0), 2);
        }
        Check.noIndex("a 17th", () -> pool.unit(16, 0));
        pool.undo();
        Check.noIndex("taken back", () -> pool.unit(15, 0));

        Check.says("Throws IllegalArgumentException if what is not 0 to 5");
        int[] wrongWhat = {-1, 6, MIN, MAX};
        for (int what : wrongWhat) {
            Unchanged.noArgument("unit(0, " + what + ")", Pools::busy, x -> x.unit(0, what));
            Unchanged.noIndex("unit(9, " + what + "): first the unit", Pools::busy, x -> x.unit(9, what));
            Unchanged.noIndex("unit(-1, " + what + "): first the unit", Pools::busy, x -> x.unit(-1, what));
        }
        int[] want = {0, 4, 2, 7, 2, 15};
        for (int what = 0; what <= 5; what++) {
            Check.due("unit(2, " + what + ")", Pools.busy().unit(2, what), want[what]);
        }
    }

    private static void unitNumbers() {
        Check.says("unit: 4: its due day, NONE if it is not on loan");
        SparePool pool = Pools.with(17);
        Check.due("at first", pool.unit(0, 4), -1);
        pool.days(2);
        pool.lend(0, 0, 30);
        Check.due("on loan", pool.unit(0, 4), 32);
        pool.days(99);
        Check.due("late", pool.unit(0, 4), 32);
        pool.bring(0);
        Check.due("brought back", pool.unit(0, 4), -1);

        Check.says("unit: 5: the late fees that would be paid if it was brought back now, 0 if it is not on loan");
        SparePool fees = Pools.with(17);
        fees.days(50);
        Check.due("free", fees.unit(0, 5), 0);
        fees.lend(0, 0, 2);
        int[] want = {0, 0, 0, 5, 10};
        for (int day = 0; day < want.length; day++) {
            Check.due("after " + day + " days", fees.unit(0, 5), want[day]);
            fees.days(1);
        }
        fees.set(0, 0);
        Check.due("with a fee of 0", fees.unit(0, 5), 0);
        fees.set(0, 99);
        Check.due("with a fee of 99", fees.unit(0, 5), 297);
        Check.due("it is what is paid", fees.bring(0), 297);
        Check.due("brought back", fees.unit(0, 5), 0);
    }

    private static void holderWhat() {
        Check.says("Throws IndexOutOfBoundsException if there is no such holder (holder)");
        int[] wrong = {-1, 5, MIN, MAX};
        for (int h : wrong) {
            Unchanged.noIndex("holder(" + h + ", 0)", Pools::busy, x -> x.holder(h, 0));
        }
        Check.due("holder 0", Pools.busy().holder(0, 1), 1);
        Check.due("holder 4", Pools.busy().holder(4, 1), 4);

        Check.says("Throws IllegalArgumentException if what is not 0 to 6");
        int[] wrongWhat = {-1, 7, MIN, MAX};
        for (int what : wrongWhat) {
            Unchanged.noArgument("holder(4, " + what + ")", Pools::busy, x -> x.holder(4, what));
            Unchanged.noIndex("holder(5, " + what + "): first the holder", Pools::busy, x -> x.holder(5, what));
            Unchanged.noIndex("holder(-1, " + what + "): first the holder", Pools::busy, x -> x.holder(-1, what));
        }
        int[] want = {0, 2, 1, 0, 0, 0, 1};
        for (int what = 0; what <= 6; what++) {
            Check.due("holder(1, " + what + ")", Pools.busy().holder(1, what), want[what]);
        }
    }

    private static void holderNumbers() {
        Check.says("holder: 1: the units that it owns; 2: the units at its place; 3: the units that it has borrowed");
        SparePool pool = Pools.sixteen(37);
        for (int u = 0; u < 16; u++) {
            Check.due("owned", pool.holder(3, 1), 16);
            Check.due("at the owner's", pool.holder(3, 2), 16 - u);
            Check.due("at the borrower's", pool.holder(0, 2), u);
            Check.due("borrowed", pool.holder(0, 3), u);
            pool.lend(u, 0, 1);
        }
        Check.due("all away", pool.holder(3, 2), 0);
        Check.due("all borrowed", pool.holder(0, 3), 16);
        Check.due("own ones are not borrowed", pool.holder(3, 3), 0);
        Check.due("it owns none", pool.holder(0, 1), 0);

        Check.says("holder: 4: the cores that it owes");
        SparePool cores = Pools.sixteen(47);
        for (int v = 0; v < 6; v++) {
            Check.due("cores", cores.holder(0, 4), v);
            cores.advance(0, v, 1);
        }
        Check.due("the most", cores.holder(0, 4), 6);
        Check.due("another's", cores.holder(1, 4), 0);
        Check.due("the pool's", cores.holder(4, 4), 0);

        Check.says("holder: 5: the parts that it owes; 6: the parts that are owed to it");
        SparePool parts = Pools.with(7, 107, 30, 130, 237, 240);
        parts.lend(0, 3, 1);
        parts.lend(1, 3, 1);
        parts.take(0, 2, 0);
        parts.take(0, 2, 1);
        parts.take(1, 3, 0);
        parts.lend(5, 3, 1);
        parts.take(4, 5, 2);
        int[] owes = {0, 0, 0, 3, 1};
        int[] gets = {3, 0, 0, 1, 0};
        for (int h = 0; h <= 4; h++) {
            Check.due("owed by " + h, parts.holder(h, 5), owes[h]);
            Check.due("owed to " + h, parts.holder(h, 6), gets[h]);
        }
        for (int i = 0; i < 20; i++) {
            int h = i / 4;
            int other = i % 4 < h ? i % 4 : i % 4 + 1;
            SparePool two = Pools.with(10 * other + 1, 10 * h);
            two.lend(0, h, 1);
            two.take(0, 1, 0);
            for (int each = 0; each <= 4; each++) {
                Check.due("owed by " + each, two.holder(each, 5), each == h ? 1 : 0);
                Check.due("owed to " + each, two.holder(each, 6), each == other ? 1 : 0);
            }
        }
    }

    private static void owedWhom() {
        Check.says("Throws IndexOutOfBoundsException if there is no such holder, kind or part (owed)");
        int[] noHolder = {-1, 5, MIN, MAX};
        int[] noKind = {-1, 3, MIN, MAX};
        for (int h : noHolder) {
            Unchanged.noIndex("owed(" + h + ", 1, 0, 1)", Pools::busy, x -> x.owed(h, 1, 0, 1));
            Unchanged.noIndex("owed(3, " + h + ", 0, 1)", Pools::busy, x -> x.owed(3, h, 0, 1));
        }
        for (int kind : noKind) {
            Unchanged.noIndex("owed(3, 1, " + kind + ", 1)", Pools::busy, x -> x.owed(3, 1, kind, 1));
            Unchanged.noIndex("owed(3, 1, 0, " + kind + ")", Pools::busy, x -> x.owed(3, 1, 0, kind));
        }
        SparePool pool = Pools.busy();
        Check.due("the first of all", pool.owed(0, 0, 0, 0), 0);
        Check.due("the last of all", pool.owed(4, 4, 2, 2), 0);

        Check.says("Returns how many such parts h owes the other one");
        Check.due("one", pool.owed(3, 1, 0, 1), 1);
        Check.due("not the other way", pool.owed(1, 3, 0, 1), 0);
        Check.due("not what is settled", pool.owed(3, 1, 0, 0), 0);
        Check.due("not another kind", pool.owed(3, 1, 1, 1), 0);
        SparePool many = new SparePool();
        for (int u = 0; u < 16; u++) {
            many.come(2, u % 2 == 0 ? 3 : 0, u % 2 == 0 ? 0 : 7);
        }
        for (int u = 1; u < 16; u += 2) {
            many.lend(u, 3, 1);
            many.take(u, u - 1, 2);
            Check.due("more and more", many.owed(3, 0, 2, 2), (u + 1) / 2);
        }
    }

    private static SparePool sixCores() {
        SparePool pool = Pools.with(47, 147, 247, 47, 147, 247, 47);
        for (int v = 0; v < 6; v++) {
            pool.advance(2, v, 30 - v);
        }
        return pool;
    }

    private static void coreWhich() {
        Check.says("Throws IndexOutOfBoundsException if there is no such holder (core)");
        int[] wrong = {-1, 5, MIN, MAX};
        for (int h : wrong) {
            Unchanged.noIndex("core(" + h + ", 0, 0)", Pools::busy, x -> x.core(h, 0, 0));
            Unchanged.noIndex("core(" + h + ", -1, 0): first the holder", Pools::busy, x -> x.core(h, -1, 0));
            Unchanged.noIndex("core(" + h + ", 0, 2): first the holder", Pools::busy, x -> x.core(h, 0, 2));
        }

        Check.says("Throws IllegalArgumentException if k is negative, or what is not 0 or 1");
        Unchanged.noArgument("k -1", Pools::busy, x -> x.core(2, -1, 0));
        Unchanged.noArgument("k min", Pools::busy, x -> x.core(2, MIN, 1));
        Unchanged.noArgument("k -1 of one who owes none", Pools::busy, x -> x.core(0, -1, 0));
        Unchanged.noArgument("what -1", Pools::busy, x -> x.core(2, 0, -1));
        Unchanged.noArgument("what 2", Pools::busy, x -> x.core(2, 0, 2));
        Unchanged.noArgument("what 2 of one who owes none", Pools::busy, x -> x.core(4, 0, 2));
        Unchanged.noArgument("what -1 of too large a k", Pools::busy, x -> x.core(2, 7, -1));
        Unchanged.noArgument("what max", Pools::busy, x -> x.core(2, 0, MAX));

        Check.says("k: which one, from 0: the oldest first");
        SparePool pool = sixCores();
        for (int k = 0; k <= 5; k++) {
            Check.due("kind of core " + k, pool.core(2, k, 0), k % 3);
            Check.due("day of core " + k, pool.core(2, k, 1), 30 - k);
        }

        Check.says("NONE if it does not owe so many");
        int[] tooMany = {6, 7, 30, MAX - 12, MAX};
        for (int k : tooMany) {
            Check.due("kind of core " + k, pool.core(2, k, 0), -1);
            Check.due("day of core " + k, pool.core(2, k, 1), -1);
        }
        for (int h = 0; h <= 4; h++) {
            Check.due("core 0 of " + h, pool.core(h, 0, 0), h == 2 ? 0 : -1);
        }
        pool.deliver(1);
        Check.due("the next is the second then", pool.core(2, 1, 1), 28);
        Check.due("the last is the fifth then", pool.core(2, 4, 1), 25);
        Check.due("no sixth", pool.core(2, 5, 0), -1);
        Check.due("no day of a sixth", pool.core(2, 5, 1), -1);
    }

    private static void settingWhat() {
        Check.says("Throws IllegalArgumentException if what is out of range (setting: 0 to 2)");
        int[] wrong = {-1, 3, MIN, MAX};
        for (int what : wrong) {
            Unchanged.noArgument("setting(" + what + ")", Pools::busy, x -> x.setting(what));
        }
        int[] want = {5, 90, 20};
        for (int what = 0; what <= 2; what++) {
            Check.due("setting(" + what + ")", Pools.busy().setting(what), want[what]);
        }
    }

    private static void lookingChangesNothing() {
        Check.says("Returns that number (and is no action)");
        Unchanged.by("about", Pools::busy, x -> x.about(4));
        Unchanged.by("unit", Pools::busy, x -> x.unit(2, 5));
        Unchanged.by("holder", Pools::busy, x -> x.holder(1, 0));
        Unchanged.by("owed", Pools::busy, x -> x.owed(3, 1, 0, 1));
        Unchanged.by("core", Pools::busy, x -> x.core(2, 0, 1));
        Unchanged.by("setting", Pools::busy, x -> x.setting(1));
    }
}
