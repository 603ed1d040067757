import java.util.ArrayDeque;
import java.util.HashMap;
import java.util.Map;
import java.util.Random;

/** Promises 24 to 29: complete, takings, bill, firstDue, cheapest, inDebt. */
public final class ForesightTest {
    public static void main(String[] args) {
        completeByTheRarestPart();
        completeAsAllTakingsTell();
        billAddsAndSubtracts();
        firstDueIsTheLowest();
        cheapestCore();
        inDebtByAllThatIsOpen();
        inDebtAsItWouldHappen();
        Check.finish("ForesightTest");
    }

    private static void complete(SparePool pool, int h, int kind, int most, int fewest) {
        Check.due("complete", pool.complete(h, kind), most);
        Check.due("takings", pool.takings(h, kind), fewest);
    }

    private static void completeByTheRarestPart() {
        SparePool pool = new SparePool();
        complete(pool, 0, 0, 0, 0);
        SparePool none = new SparePool();
        none.come(0, 0, 7);
        complete(none, 0, 0, 1, 0);
        pool.come(1, 3, 1);
        pool.come(1, 3, 2);
        complete(pool, 3, 1, 0, 0);
        pool.come(1, 3, 4);
        complete(pool, 3, 1, 1, 2);
        pool.come(1, 3, 6);
        complete(pool, 3, 1, 1, 1);
        pool.come(1, 3, 7);
        complete(pool, 3, 1, 2, 1);
        pool.come(0, 3, 7);
        pool.come(1, 2, 7);
        complete(pool, 3, 1, 2, 1);
        pool.lend(6, 3, 4);
        complete(pool, 3, 1, 3, 1);
        complete(pool, 2, 1, 0, 0);
        complete(pool, 3, 0, 1, 0);
        Check.noIndex("complete(-1, 0)", () -> pool.complete(-1, 0));
        Check.noIndex("complete(5, 0)", () -> pool.complete(5, 0));
        Check.noIndex("complete(0, -1)", () -> pool.complete(0, -1));
        Check.noIndex("complete(0, 3)", () -> pool.complete(0, 3));
        Check.noIndex("takings(-1, 0)", () -> pool.takings(-1, 0));
        Check.noIndex("takings(5, 0)", () -> pool.takings(5, 0));
        Check.noIndex("takings(0, -1)", () -> pool.takings(0, -1));
        Check.noIndex("takings(0, 3)", () -> pool.takings(0, 3));
    }

    private static void completeAsAllTakingsTell() {
        Random random = new Random(7);
        for (int run = 0; run < 300; run++) {
            int n = random.nextInt(5);
            int[] parts = new int[n];
            SparePool pool = new SparePool();
            for (int u = 0; u < n; u++) {
                parts[u] = random.nextInt(8);
                pool.come(2, 1, parts[u]);
            }
            int[] best = mostAndFewest(parts);
            complete(pool, 1, 2, best[0], best[1]);
        }
    }

    /** Goes through all that takings can lead to, the nearest first. */
    private static int[] mostAndFewest(int[] parts) {
        int begin = 0;
        for (int u = 0; u < parts.length; u++) {
            begin |= parts[u] << 3 * u;
        }
        Map<Integer, Integer> steps = new HashMap<>();
        ArrayDeque<Integer> open = new ArrayDeque<>();
        steps.put(begin, 0);
        open.add(begin);
        int[] best = {-1, 0};
        while (!open.isEmpty()) {
            int units = open.remove();
            int usable = 0;
            for (int u = 0; u < parts.length; u++) {
                usable += (units >> 3 * u & 7) == 7 ? 1 : 0;
            }
            if (usable > best[0]) {
                best[0] = usable;
                best[1] = steps.get(units);
            }
            for (int from = 0; from < 3 * parts.length; from++) {
                for (int to = from % 3; to < 3 * parts.length; to += 3) {
                    int next = (units | 1 << to) & ~(1 << from);
                    if ((units >> from & 1) == 1 && (units >> to & 1) == 0 && !steps.containsKey(next)) {
                        steps.put(next, steps.get(units) + 1);
                        open.add(next);
                    }
                }
            }
        }
        return best;
    }

    private static void billAddsAndSubtracts() {
        SparePool pool = new SparePool();
        pool.come(0, 0, 7);
        pool.come(0, 1, 7);
        pool.come(0, 4, 7);
        pool.lend(0, 1, 2);
        pool.lend(1, 2, 5);
        pool.lend(2, 1, 10);
        pool.days(4);
        int[] now = {-10, 10, 0, 0, 0};
        int[] soon = {-25, 15, 10, 0, 0};
        int[] late = {-505, 480, 490, 0, -465};
        for (int h = 0; h <= 4; h++) {
            Check.due("bill now", pool.bill(h, 0), now[h]);
            Check.due("bill in 3 days", pool.bill(h, 3), soon[h]);
            Check.due("bill in 99 days", pool.bill(h, 99), late[h]);
        }
        Check.noIndex("bill(-1, 0)", () -> pool.bill(-1, 0));
        Check.noIndex("bill(5, -1)", () -> pool.bill(5, -1));
        Check.noArgument("bill(4, -1)", () -> pool.bill(4, -1));
        Check.noArgument("bill(4, 100)", () -> pool.bill(4, 100));
        Check.due("nothing is paid", pool.holder(1, 0), 0);
        Check.due("no day goes by", pool.about(0), 4);
    }

    private static void firstDueIsTheLowest() {
        SparePool pool = new SparePool();
        Check.due("no units", pool.firstDue(), -1);
        for (int u = 0; u < 4; u++) {
            pool.come(0, u, 7);
        }
        Check.due("none on loan", pool.firstDue(), -1);
        pool.lend(1, 4, 9);
        Check.due("the only one", pool.firstDue(), 1);
        pool.lend(3, 4, 8);
        Check.due("an earlier one", pool.firstDue(), 3);
        pool.lend(2, 4, 8);
        Check.due("the lowest of two", pool.firstDue(), 2);
        pool.lend(0, 4, 30);
        Check.due("not a later one", pool.firstDue(), 2);
        pool.bring(0);
        pool.lend(0, 4, 8);
        Check.due("the lowest of three", pool.firstDue(), 0);
        pool.bring(0);
        pool.days(50);
        pool.bring(2);
        pool.bring(3);
        Check.due("also when late", pool.firstDue(), 1);
    }

    private static void cheapestCore() {
        SparePool pool = new SparePool();
        Check.due("no units", pool.cheapest(0, 0), -1);
        pool.come(0, 0, 1);
        pool.come(0, 0, 6);
        pool.come(0, 0, 5);
        pool.come(1, 0, 7);
        pool.come(0, 4, 7);
        pool.come(0, 1, 7);
        pool.come(0, 0, 7);
        pool.lend(5, 0, 3);
        pool.lend(6, 1, 3);
        Check.due("the lowest of the fewest gaps", pool.cheapest(0, 0), 1);
        Check.due("another kind", pool.cheapest(0, 1), 3);
        Check.due("none of this kind", pool.cheapest(0, 2), -1);
        Check.due("what is on loan is no core", pool.cheapest(1, 0), -1);
        Check.due("not the pool", pool.cheapest(4, 0), -1);
        pool.set(2, 0);
        Check.due("all cost the same", pool.cheapest(0, 0), 0);
        pool.set(2, 1);
        pool.bring(6);
        Check.due("brought back", pool.cheapest(0, 0), 6);
        Check.noIndex("cheapest(-1, 0)", () -> pool.cheapest(-1, 0));
        Check.noIndex("cheapest(5, 0)", () -> pool.cheapest(5, 0));
        Check.noIndex("cheapest(4, 3)", () -> pool.cheapest(4, 3));
        Check.noIndex("cheapest(0, -1)", () -> pool.cheapest(0, -1));
    }

    private static void inDebtByAllThatIsOpen() {
        SparePool pool = new SparePool();
        Check.due("a new pool", pool.inDebt(), 0);
        pool.come(0, 0, 7);
        pool.come(0, 1, 0);
        pool.lend(0, 1, 1);
        pool.days(1);
        Check.due("not late", pool.inDebt(), 0);
        pool.days(1);
        Check.due("the borrower", pool.inDebt(), 2);
        pool.take(0, 1, 0);
        Check.due("and owes a part", pool.inDebt(), 2);
        pool.buy(1, 1);
        pool.buy(0, 0);
        Check.due("the owner gets 25 and paid 20", pool.inDebt(), 2);
        pool.set(2, 14);
        Check.due("the owner gets 19 and paid 20", pool.inDebt(), 3);
        pool.set(2, 15);
        Check.due("the owner is at 0", pool.inDebt(), 2);
        Check.due("nothing is paid", pool.holder(0, 0), -20);
        SparePool all = new SparePool();
        all.come(0, 4, 0);
        all.buy(0, 0);
        Check.due("the pool", all.inDebt(), 16);
    }

    private static void inDebtAsItWouldHappen() {
        Random random = new Random(11);
        for (int run = 0; run < 200; run++) {
            SparePool pool = new SparePool();
            for (int i = 0; i < 80; i++) {
                Calls.answer(pool, Calls.action(random, pool.about(1)));
            }
            int told = pool.inDebt();
            for (int u = 0; u < pool.about(1); u++) {
                int unit = u;
                Outcome.of(() -> pool.bring(unit));
            }
            settleAll(pool);
            int happened = 0;
            for (int h = 0; h <= 4; h++) {
                happened |= pool.holder(h, 0) < 0 ? 1 << h : 0;
            }
            Check.due("inDebt", told, happened);
        }
    }

    private static void settleAll(SparePool pool) {
        for (int i = 0; i < 225; i++) {
            int[] debt = {i / 45, i / 9 % 5, i / 3 % 3, i % 3};
            for (int n = pool.owed(debt[0], debt[1], debt[2], debt[3]); n > 0; n--) {
                pool.settle(debt[0], debt[1], debt[2], debt[3]);
            }
        }
    }
}
