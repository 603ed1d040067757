/** Promises 12 to 22: the actions. A refused call changes nothing, also not what undo goes back to. */
public final class ActionTest {
    public static void main(String[] args) {
        comeNumbersTheUnits();
        lendMovesAFreeUnit();
        bringPaysLateFees();
        exchangeSwapsOwners();
        exchangeRefusals();
        advanceOwesACore();
        advanceRefusals();
        deliverSettlesTheOldest();
        deliverRefusals();
        takeOwesAPart();
        takeRefusals();
        settlePaysForOne();
        buyPaysToTheOutside();
        daysGoBy();
        setChangesASetting();
        refusedCallsChangeNothing();
        Check.finish("ActionTest");
    }

    private static SparePool with(int... kindOwnerParts) {
        SparePool pool = new SparePool();
        for (int i = 0; i < kindOwnerParts.length; i++) {
            int unit = kindOwnerParts[i];
            pool.come(unit / 100, unit / 10 % 10, unit % 10);
        }
        return pool;
    }

    private static void unit(SparePool pool, int u, int owner, int place, int parts, int due) {
        Check.due("owner of " + u, pool.unit(u, 1), owner);
        Check.due("place of " + u, pool.unit(u, 2), place);
        Check.due("parts of " + u, pool.unit(u, 3), parts);
        Check.due("due day of " + u, pool.unit(u, 4), due);
    }

    private static void accounts(SparePool pool, int... want) {
        for (int h = 0; h < want.length; h++) {
            Check.due("account of " + h, pool.holder(h, 0), want[h]);
        }
    }

    private static void comeNumbersTheUnits() {
        SparePool pool = new SparePool();
        for (int u = 0; u < 16; u++) {
            Check.due("come", pool.come(u % 3, u % 5, u % 8), u);
            Check.due("kind", pool.unit(u, 0), u % 3);
            unit(pool, u, u % 5, u % 5, u % 8, -1);
        }
        Check.noState("a 17th", () -> pool.come(0, 0, 0));
        Check.noArgument("a 17th with parts 8", () -> pool.come(0, 0, 8));
        Check.noArgument("a 17th with parts -1", () -> pool.come(0, 0, -1));
        Check.noIndex("a 17th of kind 3", () -> pool.come(3, 0, 8));
        Check.noIndex("a 17th of kind -1", () -> pool.come(-1, 0, 8));
        Check.noIndex("a 17th of holder 5", () -> pool.come(0, 5, 8));
        Check.noIndex("a 17th of holder -1", () -> pool.come(0, -1, 8));
        Check.due("units", pool.about(1), 16);
    }

    private static void lendMovesAFreeUnit() {
        SparePool pool = with(7, 17, 47);
        pool.days(3);
        Check.due("lend", pool.lend(0, 4, 30), 33);
        unit(pool, 0, 0, 4, 7, 33);
        Check.due("lend the pool's", pool.lend(2, 0, 1), 4);
        unit(pool, 2, 4, 0, 7, 4);
        Check.noState("lend on", () -> pool.lend(0, 1, 1));
        Check.noState("lend home", () -> pool.lend(0, 0, 1));
        Check.noState("lend to its owner", () -> pool.lend(1, 1, 1));
        Check.noArgument("for 0 days", () -> pool.lend(1, 1, 0));
        Check.noArgument("for 31 days", () -> pool.lend(0, 1, 31));
        Check.noArgument("for -1 days", () -> pool.lend(1, 2, -1));
        Check.noIndex("unit -1", () -> pool.lend(-1, 1, 0));
        Check.noIndex("unit 3", () -> pool.lend(3, 1, 1));
        Check.noIndex("to -1", () -> pool.lend(1, -1, 0));
        Check.noIndex("to 5", () -> pool.lend(1, 5, 1));
        pool.bring(0);
        Check.due("lend again", pool.lend(0, 2, 1), 4);
    }

    private static void bringPaysLateFees() {
        SparePool pool = with(17, 42, 30);
        pool.lend(0, 2, 3);
        pool.lend(1, 2, 1);
        pool.lend(2, 4, 5);
        pool.days(3);
        Check.due("on its due day", pool.bring(0), 0);
        unit(pool, 0, 1, 1, 7, -1);
        accounts(pool, 0, 0, 0, 0, 0);
        Check.due("2 days late", pool.bring(1), 10);
        accounts(pool, 0, 0, -10, 0, 10);
        pool.set(0, 7);
        pool.days(3);
        Check.due("1 day late", pool.bring(2), 7);
        accounts(pool, 0, 0, -10, 7, 3);
        unit(pool, 2, 3, 3, 0, -1);
        Check.noState("bring again", () -> pool.bring(2));
        Check.noIndex("bring -1", () -> pool.bring(-1));
        Check.noIndex("bring 3", () -> pool.bring(3));
        pool.lend(0, 4, 9);
        Check.due("early", pool.bring(0), 0);
    }

    private static void exchangeSwapsOwners() {
        SparePool pool = with(120, 147, 137, 147);
        Check.due("all parts missing", pool.exchange(0, 1), 160);
        unit(pool, 0, 4, 4, 0, -1);
        unit(pool, 1, 2, 2, 7, -1);
        accounts(pool, 0, 0, -160, 0, 160);
        Check.due("a good one", pool.exchange(2, 3), 100);
        accounts(pool, 0, 0, -160, -100, 260);
        Check.due("exchanges", pool.about(8), 2);
        pool.set(1, 7);
        pool.set(2, 1);
        pool.buy(0, 0);
        pool.buy(0, 1);
        pool.buy(0, 2);
        pool.come(1, 0, 2);
        Check.due("by the settings of now", pool.exchange(4, 0), 9);
        Check.due("no core is owed", pool.about(5), 0);
        Check.due("still free", pool.lend(0, 1, 2), 2);
    }

    private static void exchangeRefusals() {
        SparePool pool = with(7, 47, 147, 43, 47, 17, 47);
        pool.lend(4, 0, 2);
        pool.lend(5, 4, 2);
        Check.noState("u the pool's", () -> pool.exchange(1, 6));
        Check.noState("u on loan", () -> pool.exchange(5, 1));
        Check.noState("v an operator's", () -> pool.exchange(0, 5));
        Check.noState("v the same", () -> pool.exchange(0, 0));
        Check.noState("u and v the pool's", () -> pool.exchange(1, 1));
        Check.noState("v on loan", () -> pool.exchange(0, 4));
        Check.noState("v not usable", () -> pool.exchange(0, 3));
        Check.noState("another kind", () -> pool.exchange(0, 2));
        Check.noIndex("u -1", () -> pool.exchange(-1, 1));
        Check.noIndex("u 7", () -> pool.exchange(7, 1));
        Check.noIndex("v -1", () -> pool.exchange(1, -1));
        Check.noIndex("v 7", () -> pool.exchange(0, 7));
        Check.due("nothing was paid", pool.holder(4, 0), 0);
        Check.due("none counted", pool.about(8), 0);
        Check.due("it would do", pool.exchange(0, 1), 100);
    }

    private static void advanceOwesACore() {
        SparePool pool = with(247, 247);
        pool.days(4);
        Check.due("advance", pool.advance(0, 1, 30), 34);
        unit(pool, 1, 0, 0, 7, -1);
        Check.due("nothing is paid", pool.holder(0, 0), 0);
        Check.due("exchanges", pool.about(8), 1);
        Check.due("cores", pool.about(5), 1);
        Check.due("its cores", pool.holder(0, 4), 1);
        Check.due("kind", pool.core(0, 0, 0), 2);
        Check.due("due", pool.core(0, 0, 1), 34);
        Check.due("for one day", pool.advance(0, 0, 1), 5);
        Check.due("the newer one", pool.core(0, 1, 1), 5);
    }

    private static void advanceRefusals() {
        SparePool pool = with(47, 46, 7, 147);
        pool.lend(3, 2, 9);
        Check.noState("to the pool", () -> pool.advance(4, 0, 1));
        Check.noState("not usable", () -> pool.advance(0, 1, 1));
        Check.noState("an operator's", () -> pool.advance(1, 2, 1));
        Check.noState("on loan", () -> pool.advance(2, 3, 1));
        Check.noArgument("for 0 days", () -> pool.advance(4, 0, 0));
        Check.noArgument("for 31 days", () -> pool.advance(0, 1, 31));
        Check.noIndex("to 5", () -> pool.advance(5, 0, 0));
        Check.noIndex("to -1", () -> pool.advance(-1, 0, 1));
        Check.noIndex("unit 4", () -> pool.advance(0, 4, 0));
        Check.noIndex("unit -1", () -> pool.advance(0, -1, 1));
        SparePool six = with(47, 47, 47, 147, 147, 147, 47);
        for (int v = 0; v < 6; v++) {
            six.advance(3, v, 1 + v);
        }
        Check.noState("a 7th core", () -> six.advance(3, 6, 1));
        Check.due("of another", six.advance(2, 6, 1), 1);
        Check.due("cores", six.about(5), 7);
    }

    private static void deliverSettlesTheOldest() {
        SparePool pool = with(147, 47, 147, 147, 100, 6, 107);
        pool.advance(0, 0, 9);
        pool.advance(0, 1, 2);
        pool.advance(0, 2, 3);
        pool.advance(0, 3, 4);
        pool.days(10);
        Check.due("a day late, all parts missing", pool.deliver(4), 165);
        unit(pool, 4, 4, 4, 0, -1);
        Check.due("the oldest left", pool.core(0, 0, 0), 0);
        Check.due("its day", pool.core(0, 0, 1), 2);
        Check.due("8 days late, one missing", pool.deliver(5), 160);
        Check.due("the next of kind 1", pool.core(0, 0, 1), 3);
        Check.due("7 days late", pool.deliver(6), 135);
        Check.due("the last", pool.core(0, 0, 1), 4);
        Check.due("no more", pool.core(0, 1, 0), -1);
        accounts(pool, -460, 0, 0, 0, 460);
        Check.due("counted at the advance", pool.about(8), 4);
        pool.set(0, 0);
        pool.set(1, 0);
        Check.due("what it got is a core too", pool.deliver(0), 0);
        Check.due("cores", pool.about(5), 0);
        pool.advance(0, 0, 3);
        Check.due("in time", pool.deliver(0), 0);
    }

    private static void deliverRefusals() {
        SparePool pool = with(47, 17, 7, 107, 47);
        pool.advance(0, 0, 5);
        pool.lend(2, 3, 5);
        Check.noState("the pool's", () -> pool.deliver(4));
        Check.noState("on loan", () -> pool.deliver(2));
        Check.noState("one who owes none", () -> pool.deliver(1));
        Check.noState("another kind", () -> pool.deliver(3));
        Check.noIndex("unit -1", () -> pool.deliver(-1));
        Check.noIndex("unit 5", () -> pool.deliver(5));
        pool.bring(2);
        Check.due("brought back", pool.deliver(2), 100);
        Check.noState("none owed", () -> pool.deliver(0));
    }

    private static void takeOwesAPart() {
        SparePool pool = with(217, 220, 221, 211);
        pool.lend(1, 1, 9);
        pool.lend(2, 1, 9);
        Check.due("2 owes 1 a part", pool.take(0, 1, 2), 1);
        unit(pool, 0, 1, 1, 3, -1);
        unit(pool, 1, 2, 1, 4, 9);
        Check.due("another part", pool.take(0, 1, 0), 1);
        Check.due("of 2 alone", pool.take(2, 0, 0), 0);
        Check.due("it cancels", pool.owed(2, 1, 2, 0), 0);
        Check.due("not the other way", pool.owed(1, 2, 2, 0), 0);
        Check.due("1 owes 2", pool.take(1, 3, 2), 0);
        Check.due("it cancels too", pool.owed(2, 1, 2, 2), 0);
        Check.due("now it owes", pool.take(3, 1, 2), 1);
        Check.due("own ones owe none", pool.take(0, 3, 1), 0);
        Check.due("taken", pool.about(7), 6);
        Check.due("owed in all", pool.about(6), 1);
        Check.due("owed by 2", pool.holder(2, 5), 1);
        Check.due("owed to 1", pool.holder(1, 6), 1);
        accounts(pool, 0, 0, 0, 0, 0);
        SparePool two = with(17, 17, 20, 20);
        two.lend(2, 1, 1);
        two.lend(3, 1, 1);
        Check.due("one", two.take(0, 2, 1), 1);
        Check.due("two", two.take(1, 3, 1), 2);
        Check.due("one again: what 1 owes 2 is none", two.take(2, 0, 1), 0);
        Check.due("one is left", two.owed(2, 1, 0, 1), 1);
    }

    private static void takeRefusals() {
        SparePool pool = with(17, 10, 110, 20, 13);
        pool.lend(4, 2, 2);
        Check.noState("another kind", () -> pool.take(0, 2, 0));
        Check.noState("another place", () -> pool.take(0, 3, 0));
        Check.noState("one owner, another place", () -> pool.take(4, 1, 0));
        Check.noState("u lacks it", () -> pool.take(4, 3, 2));
        Check.noState("v has it", () -> pool.take(0, 4, 0));
        Check.noState("both lack it", () -> pool.take(1, 1, 0));
        Check.noState("of itself", () -> pool.take(0, 0, 0));
        Check.noIndex("u -1", () -> pool.take(-1, 0, 0));
        Check.noIndex("u 5", () -> pool.take(5, 0, 0));
        Check.noIndex("v -1", () -> pool.take(0, -1, 0));
        Check.noIndex("v 5", () -> pool.take(0, 5, 0));
        Check.noIndex("part -1", () -> pool.take(0, 1, -1));
        Check.noIndex("part 3", () -> pool.take(0, 1, 3));
        Check.noIndex("part 33", () -> pool.take(0, 1, 33));
        Check.due("none taken", pool.about(7), 0);
        Check.due("on loan is all right", pool.take(4, 3, 0), 1);
        pool.take(0, 1, 2);
        Check.noState("v has the part now", () -> pool.take(0, 1, 2));
    }

    private static void settlePaysForOne() {
        SparePool pool = with(117, 117, 140, 140);
        pool.lend(0, 4, 9);
        pool.lend(1, 4, 9);
        pool.take(0, 2, 1);
        pool.take(1, 3, 1);
        Check.due("settle one", pool.settle(4, 1, 1, 1), 1);
        accounts(pool, 0, 20, 0, 0, -20);
        pool.set(2, 999);
        Check.due("settle another", pool.settle(4, 1, 1, 1), 0);
        accounts(pool, 0, 1019, 0, 0, -1019);
        Check.noState("none left", () -> pool.settle(4, 1, 1, 1));
        Check.noState("the other way", () -> pool.settle(1, 4, 1, 1));
        Check.noState("with itself", () -> pool.settle(4, 4, 1, 1));
        Check.noIndex("holder -1", () -> pool.settle(-1, 1, 1, 1));
        Check.noIndex("holder 5", () -> pool.settle(5, 1, 1, 1));
        Check.noIndex("other -1", () -> pool.settle(4, -1, 1, 1));
        Check.noIndex("other 5", () -> pool.settle(4, 5, 1, 1));
        Check.noIndex("kind -1", () -> pool.settle(4, 1, -1, 1));
        Check.noIndex("kind 3", () -> pool.settle(4, 1, 3, 1));
        Check.noIndex("part -1", () -> pool.settle(4, 1, 1, -1));
        Check.noIndex("part 3", () -> pool.settle(4, 1, 1, 3));
        Check.due("units stay as they are", pool.unit(2, 3), 2);
    }

    private static void buyPaysToTheOutside() {
        SparePool pool = with(10, 43);
        pool.lend(0, 2, 1);
        Check.due("buy for one on loan", pool.buy(0, 2), 4);
        Check.due("its owner pays", pool.holder(1, 0), -20);
        Check.due("not the borrower", pool.holder(2, 0), 0);
        Check.due("the pool's", pool.buy(1, 2), 7);
        Check.due("the pool pays", pool.holder(4, 0), -20);
        pool.set(2, 3);
        Check.due("another part", pool.buy(0, 0), 5);
        Check.due("to the outside", pool.about(9), 43);
        Check.noState("it has it", () -> pool.buy(0, 0));
        Check.noIndex("unit -1", () -> pool.buy(-1, 0));
        Check.noIndex("unit 2", () -> pool.buy(2, 0));
        Check.noIndex("part -1", () -> pool.buy(0, -1));
        Check.noIndex("part 3", () -> pool.buy(1, 3));
        Check.noIndex("part 32", () -> pool.buy(0, 32));
    }

    private static void daysGoBy() {
        SparePool pool = new SparePool();
        Check.due("a day", pool.days(1), 1);
        Check.due("99 days", pool.days(99), 100);
        Check.noArgument("0 days", () -> pool.days(0));
        Check.noArgument("100 days", () -> pool.days(100));
        Check.noArgument("-1 days", () -> pool.days(-1));
        Check.due("today", pool.about(0), 100);
    }

    private static void setChangesASetting() {
        SparePool pool = new SparePool();
        Check.due("late fee", pool.set(0, 99), 5);
        Check.due("late fee again", pool.set(0, 0), 99);
        Check.due("exchange", pool.set(1, 999), 100);
        Check.due("exchange again", pool.set(1, 0), 999);
        Check.due("part", pool.set(2, 999), 20);
        Check.due("part again", pool.set(2, 0), 999);
        Check.noArgument("late fee 100", () -> pool.set(0, 100));
        Check.noArgument("late fee -1", () -> pool.set(0, -1));
        Check.noArgument("exchange 1000", () -> pool.set(1, 1000));
        Check.noArgument("exchange -1", () -> pool.set(1, -1));
        Check.noArgument("part 1000", () -> pool.set(2, 1000));
        Check.noArgument("part -1", () -> pool.set(2, -1));
        Check.noArgument("setting -1", () -> pool.set(-1, 0));
        Check.noArgument("setting 3", () -> pool.set(3, 0));
        Check.due("an action also if the same", pool.set(2, 0), 0);
        Check.due("remembered", pool.undo(), 6);
    }

    private static void refusedCallsChangeNothing() {
        SparePool pool = with(47, 147, 10, 120);
        String before = Look.at(with(47, 147, 10, 120));
        Check.noState("lend", () -> pool.lend(0, 4, 2));
        Check.noState("bring", () -> pool.bring(0));
        Check.noState("exchange", () -> pool.exchange(2, 1));
        Check.noState("advance", () -> pool.advance(4, 0, 2));
        Check.noState("deliver", () -> pool.deliver(2));
        Check.noState("take", () -> pool.take(0, 2, 0));
        Check.noState("settle", () -> pool.settle(0, 1, 0, 0));
        Check.noState("buy", () -> pool.buy(0, 0));
        Check.noArgument("days", () -> pool.days(0));
        Check.noArgument("set", () -> pool.set(0, 100));
        Check.noArgument("come", () -> pool.come(0, 0, 8));
        Check.noIndex("come", () -> pool.come(0, 5, 0));
        Check.same("all as before", Look.at(pool), before);
        Check.due("no state remembered", pool.undo(), 3);
        Check.due("the last unit has gone", pool.about(1), 3);
    }
}
