/** The document's terms, sentence by sentence: what begins how, what counts as what, from which day on, how often. */
public final class TermsEdgeTest {
    public static void main(String[] args) {
        usedFor512Calls();
        holders();
        units();
        parts();
        daysAndMoney();
        settings();
        loans();
        lateFees();
        exchanges();
        inAdvance();
        partsThatAreOwed();
        money();
        theConstant();
        Check.finish("TermsEdgeTest");
    }

    private static void usedFor512Calls() {
        Check.says("An object is used for at most 512 calls after it has been made");
        SparePool aging = new SparePool();
        for (int call = 1; call <= 511; call++) {
            Check.due("call " + call, aging.days(99), 99 * call);
        }
        Check.due("call 512", aging.about(0), 99 * 511);
        SparePool refusing = new SparePool();
        for (int call = 1; call <= 511; call++) {
            Check.noIndex("call " + call, () -> refusing.bring(0));
        }
        Check.due("call 512", refusing.come(0, 0, 0), 0);
        SparePool simulating = new SparePool();
        int first = simulating.simulate(42, 99);
        for (int call = 2; call <= 512; call++) {
            Check.due("call " + call, simulating.simulate(42, 99), first);
        }
        SparePool saving = new SparePool();
        for (int call = 1; call <= 509; call += 3) {
            saving.days(1);
            saving.save(call % 2);
            Check.due("call " + (call + 2), saving.restore(call % 2), 0);
        }
        Check.due("at the end", saving.about(0), 170);
        theMostMoney();
    }

    private static void theMostMoney() {
        SparePool pool = Pools.sixteen(47);
        pool.set(0, 99);
        for (int u = 0; u < 16; u++) {
            pool.lend(u, 0, 1);
        }
        for (int i = 0; i < 400; i++) {
            pool.days(99);
        }
        int fee = 99 * (400 * 99 - 1);
        Check.due("a fee", pool.unit(15, 5), fee);
        Check.due("all fees", pool.bill(0, 0), 16 * fee);
        Check.due("the owner's", pool.bill(4, 99), -16 * (fee + 99 * 99));
        Check.due("in debt", pool.inDebt(), 1);
        for (int u = 0; u < 16; u++) {
            Check.due("bring", pool.bring(u), fee);
        }
        Check.due("the borrower's account", pool.holder(0, 0), -16 * fee);
        Check.due("the owner's account", pool.holder(4, 0), 16 * fee);
    }

    private static void holders() {
        Check.says("There are 5 holders: the operators 0 to 3, and the pool, 4");
        SparePool pool = new SparePool();
        for (int h = 0; h <= 4; h++) {
            Check.due("account of " + h, pool.holder(h, 0), 0);
            Check.due("a unit for " + h, pool.come(0, h, 7), h);
        }
        Check.noIndex("holder -1", () -> pool.holder(-1, 0));
        Check.noIndex("holder 5", () -> pool.holder(5, 0));
        for (int h = 0; h <= 3; h++) {
            int operator = h;
            SparePool each = Pools.with(47);
            Check.due("operator " + h, each.advance(operator, 0, 1), 1);
        }
        Check.noState("4 is no operator", () -> Pools.with(47).advance(4, 0, 1));
    }

    private static void units() {
        Check.says("There are kinds of units 0 to 2");
        SparePool kinds = new SparePool();
        for (int kind = 0; kind <= 2; kind++) {
            Check.due("kind", kinds.unit(kinds.come(kind, 0, 0), 0), kind);
        }
        Check.noIndex("kind -1", () -> kinds.come(-1, 0, 0));
        Check.noIndex("kind 3", () -> kinds.come(3, 0, 0));

        Check.says("There are at most 16 units, numbered from 0 in the order in which they came");
        SparePool pool = new SparePool();
        for (int u = 0; u <= 15; u++) {
            Check.due("number", pool.come(u % 3, u % 5, u % 8), u);
        }
        Check.noState("a 17th", () -> pool.come(0, 0, 0));
        for (int u = 0; u <= 15; u++) {
            Check.due("kind of " + u, pool.unit(u, 0), u % 3);
            Check.due("parts of " + u, pool.unit(u, 3), u % 8);
        }

        Check.says("at first the place is that of the owner");
        for (int u = 0; u <= 15; u++) {
            Check.due("owner of " + u, pool.unit(u, 1), u % 5);
            Check.due("place of " + u, pool.unit(u, 2), u % 5);
        }
    }

    private static void parts() {
        Check.says("parts are told as bits (1, 2 and 4 for those that are there)");
        for (int bits = 0; bits <= 7; bits++) {
            Check.due("parts", Pools.with(bits).unit(0, 3), bits);
            for (int part = 0; part <= 2; part++) {
                int which = part;
                SparePool pool = Pools.with(bits);
                String bought = Outcome.of(() -> pool.buy(0, which));
                boolean there = (bits & 1 << part) != 0;
                Check.same("buy", bought, there ? "IllegalStateException" : "" + (bits + (1 << part)));
            }
        }

        Check.says("A unit is usable if all its parts are there");
        for (int bits = 0; bits <= 7; bits++) {
            Check.due("usable with " + bits, Pools.with(bits).about(2), bits == 7 ? 1 : 0);
        }

        Check.says("It is free if it is at the place of its owner");
        SparePool pool = Pools.with(27);
        Check.due("at its owner's", pool.about(3), 0);
        pool.lend(0, 3, 1);
        Check.due("away", pool.about(3), 1);
        pool.bring(0);
        Check.due("at its owner's again", pool.about(3), 0);
    }

    private static void daysAndMoney() {
        Check.says("Today is the day 0 at first");
        Check.due("today", new SparePool().about(0), 0);

        Check.says("Each holder has an account, at first 0, perhaps below 0");
        for (int h = 0; h <= 4; h++) {
            SparePool pool = Pools.with(10 * h);
            Check.due("account", pool.holder(h, 0), 0);
            pool.buy(0, 0);
            Check.due("below 0", pool.holder(h, 0), -20);
        }
    }

    private static void settings() {
        Check.says("0: the late fee, 0 to 99, at first 5; 1: the price of an exchange, 0 to 999, at first 100; "
                + "2: the price of a part, 0 to 999, at first 20");
        int[] first = {5, 100, 20};
        int[] most = {99, 999, 999};
        for (int what = 0; what <= 2; what++) {
            int which = what;
            int tooMuch = most[what] + 1;
            SparePool pool = new SparePool();
            Check.due("at first", pool.setting(what), first[what]);
            Check.due("to 0", pool.set(what, 0), first[what]);
            Check.due("0", pool.setting(what), 0);
            Check.due("to the most", pool.set(what, most[what]), 0);
            Check.due("the most", pool.setting(what), most[what]);
            Check.noArgument("below 0", () -> pool.set(which, -1));
            Check.noArgument("above the most", () -> pool.set(which, tooMuch));
            Check.due("still the most", pool.setting(what), most[what]);
        }
    }

    private static void loans() {
        Check.says("A free unit can be lent to another holder for some days: it is at the place of the borrower then, "
                + "and has a due day");
        SparePool pool = Pools.with(7);
        pool.lend(0, 4, 6);
        Check.due("its owner", pool.unit(0, 1), 0);
        Check.due("its place", pool.unit(0, 2), 4);
        Check.due("its due day", pool.unit(0, 4), 6);

        Check.says("When it is brought back, it is at the place of its owner again");
        pool.bring(0);
        Check.due("its owner", pool.unit(0, 1), 0);
        Check.due("its place", pool.unit(0, 2), 0);
        Check.due("its due day", pool.unit(0, 4), -1);

        Check.says("It is not lent on, and not brought back in part");
        pool.lend(0, 4, 6);
        for (int h = 0; h <= 4; h++) {
            int to = h;
            Check.noState("lent to " + h, () -> pool.lend(0, to, 1));
        }
        Check.due("all of it comes back", pool.bring(0), 0);
        Check.due("with all parts", pool.unit(0, 3), 7);
        Check.noState("nothing left to bring", () -> pool.bring(0));
    }

    private static void lateFees() {
        Check.says("the borrower pays the owner the late fee for each day by which today is behind the due day");
        int[][] daysAndFees = {{1, 0}, {2, 0}, {3, 0}, {4, 5}, {5, 10}, {99, 480}};
        for (int[] row : daysAndFees) {
            SparePool pool = Pools.with(17);
            pool.lend(0, 2, 3);
            pool.days(row[0]);
            Check.due("after " + row[0] + " days", pool.bring(0), row[1]);
            Check.due("the borrower", pool.holder(2, 0), -row[1]);
            Check.due("the owner", pool.holder(1, 0), row[1]);
        }
        SparePool sameDay = Pools.with(17);
        sameDay.lend(0, 2, 1);
        Check.due("on the day when it is lent", sameDay.bring(0), 0);
        SparePool free = Pools.with(17);
        free.set(0, 0);
        free.lend(0, 2, 1);
        free.days(99);
        Check.due("with a fee of 0", free.bring(0), 0);
        SparePool dear = Pools.with(17);
        dear.lend(0, 2, 1);
        dear.set(0, 99);
        dear.days(2);
        Check.due("with a fee of 99", dear.bring(0), 99);
    }

    private static void exchanges() {
        Check.says("both change their owners and places");
        SparePool pool = Pools.with(233, 247);
        pool.exchange(0, 1);
        Check.due("owner of the core", pool.unit(0, 1), 4);
        Check.due("place of the core", pool.unit(0, 2), 4);
        Check.due("owner of the good one", pool.unit(1, 1), 3);
        Check.due("place of the good one", pool.unit(1, 2), 3);

        Check.says("The operator pays the pool the price of an exchange, and the price of a part for each part that "
                + "is missing in the core");
        for (int bits = 0; bits <= 7; bits++) {
            int price = 100 + 20 * (3 - Integer.bitCount(bits));
            SparePool each = Pools.with(bits, 47);
            Check.due("for " + bits, each.exchange(0, 1), price);
            Check.due("the operator", each.holder(0, 0), -price);
            Check.due("the pool", each.holder(4, 0), price);
        }
        SparePool dear = Pools.with(0, 47);
        dear.set(1, 999);
        dear.set(2, 999);
        Check.due("the dearest", dear.exchange(0, 1), 4 * 999);
        SparePool free = Pools.with(0, 47);
        free.set(1, 0);
        free.set(2, 0);
        Check.due("the cheapest", free.exchange(0, 1), 0);
        Check.due("counts all the same", free.about(8), 1);
    }

    private static void inAdvance() {
        Check.says("the operator gets the unit of the pool (owner and place) at once, and owes the pool a core of this "
                + "kind, with a due day");
        SparePool pool = Pools.with(147);
        pool.advance(2, 0, 4);
        Check.due("owner", pool.unit(0, 1), 2);
        Check.due("place", pool.unit(0, 2), 2);
        Check.due("kind of the core", pool.core(2, 0, 0), 1);
        Check.due("its due day", pool.core(2, 0, 1), 4);
        Check.due("nothing is paid yet", pool.holder(2, 0), 0);

        Check.says("a core, a free unit of its own of this kind, usable or not");
        for (int bits = 0; bits <= 7; bits++) {
            SparePool each = Pools.with(147, 120 + bits);
            each.advance(2, 0, 4);
            Check.due("with " + bits, each.deliver(1), 100 + 20 * (3 - Integer.bitCount(bits)));
            Check.due("the pool's then", each.unit(1, 1), 4);
            Check.due("at the pool's", each.unit(1, 2), 4);
            Check.due("none owed", each.holder(2, 4), 0);
        }

        Check.says("the oldest core that it owes of this kind is settled");
        SparePool old = Pools.with(47, 147, 47, 27);
        old.advance(2, 1, 1);
        old.advance(2, 0, 30);
        old.advance(2, 2, 2);
        old.deliver(3);
        Check.due("cores left", old.holder(2, 4), 2);
        Check.due("the other kind's stays", old.core(2, 0, 0), 1);
        Check.due("the newer one stays", old.core(2, 1, 1), 2);

        Check.says("and the late fee for each day by which today is behind its due day");
        int[][] daysAndPrices = {{2, 100}, {3, 100}, {4, 105}, {5, 110}, {99, 580}};
        for (int[] row : daysAndPrices) {
            SparePool late = Pools.with(47);
            late.advance(1, 0, 3);
            late.days(row[0]);
            Check.due("after " + row[0] + " days", late.deliver(0), row[1]);
            Check.due("the operator", late.holder(1, 0), -row[1]);
            Check.due("the pool", late.holder(4, 0), row[1]);
        }

        Check.says("An operator owes at most 6 cores at a time");
        SparePool many = Pools.sixteen(47);
        for (int i = 0; i < 6; i++) {
            Check.due("core " + i, many.advance(0, i, 1), 1);
        }
        Check.noState("a 7th", () -> many.advance(0, 6, 1));
        for (int i = 6; i < 12; i++) {
            Check.due("another operator's", many.advance(3, i, 1), 1);
        }
        Check.noState("its 7th", () -> many.advance(3, 12, 1));
        many.deliver(0);
        Check.due("room again", many.advance(0, 12, 1), 1);
        Check.noState("and full again", () -> many.advance(0, 13, 1));
    }

    private static void partsThatAreOwed() {
        Check.says("the owner of the other one owes the owner of the one a part of this kind and number");
        SparePool pool = Pools.with(207, 210);
        pool.lend(0, 1, 9);
        Check.due("take", pool.take(0, 1, 2), 1);
        for (int i = 0; i < 225; i++) {
            int want = i == (1 * 5 + 0) * 9 + 2 * 3 + 2 ? 1 : 0;
            Check.due("owed " + i, pool.owed(i / 45, i / 9 % 5, i / 3 % 3, i % 3), want);
        }

        Check.says("if that one owes this one such a part, this debt becomes less by one instead");
        Check.due("back", pool.take(1, 0, 2), 0);
        Check.due("none owed", pool.about(6), 0);
        SparePool two = Pools.with(7, 7, 10, 10);
        two.lend(0, 1, 9);
        two.lend(1, 1, 9);
        two.take(0, 2, 0);
        Check.due("two are owed", two.take(1, 3, 0), 2);
        Check.due("0 owes none then", two.take(2, 0, 0), 0);
        Check.due("one is left", two.owed(1, 0, 0, 0), 1);
        Check.due("0 owes none still", two.take(3, 1, 0), 0);
        Check.due("none is left", two.owed(1, 0, 0, 0), 0);

        Check.says("of two holders never both owe one another such a part");
        SparePool both = Pools.with(1, 0, 10, 10, 11, 11);
        both.lend(0, 1, 9);
        both.lend(1, 1, 9);
        Check.due("1 owes 0", both.take(0, 2, 0), 1);
        Check.due("cancelled", both.take(4, 0, 0), 0);
        Check.due("0 owes 1", both.take(5, 1, 0), 1);
        Check.due("1 owes 0 none", both.owed(1, 0, 0, 0), 0);
        Check.due("cancelled again", both.take(0, 3, 0), 0);
        Check.due("none is owed", both.about(6), 0);

        Check.says("A part can be taken from a unit for another one of the same kind that lacks it, if both are at "
                + "the same place. If they have different owners,");
        SparePool own = Pools.with(7, 0);
        Check.due("of one owner", own.take(0, 1, 0), 0);
        Check.due("none is owed", own.about(6), 0);
    }

    private static void money() {
        Check.says("A debt of one part can be settled with money: the holder pays the other one the price of a part");
        int[] prices = {0, 1, 20, 999};
        for (int price : prices) {
            SparePool pool = Pools.with(7, 10);
            pool.lend(0, 1, 9);
            pool.take(0, 1, 0);
            pool.set(2, price);
            Check.due("settle", pool.settle(1, 0, 0, 0), 0);
            Check.due("who owed it", pool.holder(1, 0), -price);
            Check.due("to whom", pool.holder(0, 0), price);
            Check.due("nothing to the outside", pool.about(9), 0);
        }

        Check.says("A missing part of a unit can be bought: its owner pays the price of a part to the outside");
        for (int price : prices) {
            SparePool pool = Pools.with(3);
            pool.lend(0, 1, 9);
            pool.set(2, price);
            Check.due("buy", pool.buy(0, 2), 7);
            Check.due("the owner", pool.holder(0, 0), -price);
            Check.due("not the borrower", pool.holder(1, 0), 0);
            Check.due("to the outside", pool.about(9), price);
        }
    }

    private static void theConstant() {
        Check.says("NONE = -1: There is no such result");
        Check.due("NONE", SparePool.NONE, -1);
    }
}
