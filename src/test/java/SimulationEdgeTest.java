import java.util.function.IntPredicate;

/** Promise 31, simulate, sentence by sentence. */
public final class SimulationEdgeTest {
    private static final long FACTOR = 6364136223846793005L;
    private static final long SUMMAND = 1442695040888963407L;
    private static final int LARGEST = Integer.MAX_VALUE;

    public static void main(String[] args) {
        howManyTurns();
        anySeed();
        theFirstNumber();
        withoutUnits();
        oneTurnOfEachSort();
        theNumberOfUnitsOfNow();
        what16UnitsDo();
        comeTurns();
        lendAndBringTurns();
        exchangeTurns();
        partTurns();
        whatIsReturned();
        onACopy();
        Check.finish("SimulationEdgeTest");
    }

    private static void howManyTurns() {
        Check.says("m: number of turns, 1 to 99. Throws IllegalArgumentException if m is out of range");
        int[] wrong = {-1, 0, 100, Integer.MIN_VALUE, Integer.MAX_VALUE};
        for (int m : wrong) {
            Unchanged.noArgument("m " + m, Pools::busy, x -> x.simulate(1, m));
            Unchanged.noArgument("m " + m, SparePool::new, x -> x.simulate(Long.MIN_VALUE, m));
        }
        for (int m = 1; m <= 99; m++) {
            Check.due("turns", Pools.busy().simulate(77, m), byCalls(Pools.busy(), 77, m));
        }
    }

    private static void anySeed() {
        Check.says("seed: any long; x * 6364136223846793005L + 1442695040888963407L (with long overflow)");
        long[] seeds = {0, 1, -1, 42, 1L << 31, 1L << 32, 1L << 33, -(1L << 33), Long.MAX_VALUE, Long.MIN_VALUE,
            Long.MAX_VALUE - 1, Long.MIN_VALUE + 1};
        for (long seed : seeds) {
            Check.due("seed " + seed, Pools.busy().simulate(seed, 99), byCalls(Pools.busy(), seed, 99));
            Check.due("seed " + seed, new SparePool().simulate(seed, 99), byCalls(new SparePool(), seed, 99));
            Check.due("one turn of " + seed, new SparePool().simulate(seed, 1), byCalls(new SparePool(), seed, 1));
        }
    }

    /** What the calls themselves would do, on an object that is used for nothing else. */
    private static int byCalls(SparePool pool, long seed, int m) {
        long x = seed;
        for (int i = 0; i < m; i++) {
            x = x * FACTOR + SUMMAND;
            byCall(pool, (int) (x >>> 33));
        }
        return 1000 * pool.about(2) + 100 * pool.about(5) + pool.about(6);
    }

    private static void byCall(SparePool pool, int r) {
        Outcome.of(() -> call(pool, r, Math.max(1, pool.about(1))));
    }

    private static int call(SparePool pool, int r, int n) {
        int u = r / 16 % n;
        int v = r / 256 % n;
        int h = r / 4096 % 5;
        int high = r / 32768;
        switch (r % 16) {
            case 0: case 1: case 2: return pool.come(r / 16 % 3, h, r / 64 % 8);
            case 3: case 4: return pool.lend(u, h, 1 + high % 9);
            case 5: return pool.bring(u);
            case 6: case 7: return pool.exchange(u, v);
            case 8: return pool.advance(h, v, 1 + high % 9);
            case 9: return pool.deliver(u);
            case 10: case 11: case 12: return pool.take(u, v, high % 3);
            case 13: return pool.buy(u, high % 3);
            case 14: return pool.settle(h, high % 5, r / 16 % 3, r / 64 % 3);
            default: return pool.days(1 + high % 9);
        }
    }

    /** The seed before a state of the generator: the step undone. */
    private static long before(long x) {
        long inverse = 1;
        for (int i = 0; i < 6; i++) {
            inverse *= 2 - FACTOR * inverse;
        }
        return (x - SUMMAND) * inverse;
    }

    private static long seedFor(int r) {
        return before((long) r << 33);
    }

    /** A seed whose first turn has this number, and its second one a number of this sort. */
    private static long seedFor(int first, IntPredicate second) {
        for (long low = 0; low < 1L << 22; low++) {
            long x = ((long) first << 33) + low;
            if (second.test((int) (x * FACTOR + SUMMAND >>> 33))) {
                return before(x);
            }
        }
        throw new IllegalStateException("no seed for " + first);
    }

    /** The lowest r of this sort for which the rest holds too. */
    private static int number(int sort, IntPredicate rest) {
        for (int r = sort; r < LARGEST - 16; r += 16) {
            if (rest.test(r)) {
                return r;
            }
        }
        throw new IllegalStateException("no number of sort " + sort);
    }

    private static void one(String what, SparePool pool, int r, int want) {
        Check.due(what, pool.simulate(seedFor(r), 1), want);
    }

    private static void two(String what, SparePool pool, int first, IntPredicate second, int want) {
        Check.due(what, pool.simulate(seedFor(first, second), 2), want);
    }

    private static void theFirstNumber() {
        Check.says("Each turn first replaces x, and r = (int) (x >>> 33) is computed");
        SparePool pool = Pools.sixteen(43);
        int[] numbers = {0, 1, 13 + 2 * 32768, LARGEST, LARGEST - 2};
        for (int r : numbers) {
            long x = seedFor(r) * FACTOR + SUMMAND;
            Check.due("r", x >>> 33, r);
            SparePool direct = Pools.sixteen(43);
            byCall(direct, r);
            Check.due("simulate", pool.simulate(seedFor(r), 1), 1000 * direct.about(2));
            Check.due("whatever is below", pool.simulate(before(((long) r << 33) + (1L << 33) - 1), 1),
                    1000 * direct.about(2));
        }
        Check.due("a part is bought", pool.simulate(seedFor(13 + 2 * 32768), 1), 1000);
        int high = LARGEST - 2 - 32768;
        Check.due("with the highest bits", pool.simulate(seedFor(high), 1), high / 32768 % 3 == 2 ? 1000 : 0);
    }

    private static void withoutUnits() {
        Check.says("n is the number of units, or 1 without any");
        for (int sort = 3; sort <= 15; sort++) {
            int[] numbers = {sort, sort + 16, sort + 256, sort + 4096, sort + 32768, LARGEST - 15 + sort};
            for (int r : numbers) {
                Check.due("nothing to do for " + r, new SparePool().simulate(seedFor(r), 1), 0);
            }
        }
        Check.due("a unit comes", new SparePool().simulate(seedFor(7 * 64), 1), 1000);
    }

    private static void oneTurnOfEachSort() {
        Check.says("By r % 16: 0 to 2: come; 3 and 4: lend; 5: bring; 6 and 7: exchange; 8: advance; 9: deliver; "
                + "10 to 12: take; 13: buy; 14: settle; 15: days. What would throw an exception is left out");
        Unchanged.Make[] makes = {Pools::busy, SparePool::new, () -> Pools.sixteen(47), () -> Pools.with(7, 47, 40)};
        for (Unchanged.Make make : makes) {
            for (int i = 0; i < 3000; i++) {
                int r = i % 16 + 16 * ((i * 7919 + i / 16) & 0x3ffffff);
                int want = byCalls(make.pool(), seedFor(r), 1);
                Check.due("turn " + r, make.pool().simulate(seedFor(r), 1), want);
            }
            for (int sort = 0; sort <= 15; sort++) {
                int r = LARGEST - 15 + sort;
                Check.due("the largest of its sort", make.pool().simulate(seedFor(r), 1),
                        byCalls(make.pool(), seedFor(r), 1));
            }
        }
    }

    private static void theNumberOfUnitsOfNow() {
        Check.says("n is the number of units (also of those that came in this simulation)");
        // The unit 0 lacks all; the one that comes has all but the part 2, and is of the pool.
        int come = 3 * 64 + 4 * 4096;
        IntPredicate buysForIt = r -> r % 16 == 13 && r / 16 % 2 == 1 && r / 32768 % 3 == 2;
        IntPredicate buysForThe0th = r -> r % 16 == 13 && r / 16 % 2 == 0 && r / 32768 % 3 == 2;
        two("bought for it", Pools.with(0), come, buysForIt, 1000);
        two("bought for the other", Pools.with(0), come, buysForThe0th, 0);
        two("bought for the only one", new SparePool(), come, buysForIt, 1000);
    }

    private static void what16UnitsDo() {
        Check.says("come is left out if there are 16; u and v are the units 0 to 15");
        SparePool pool = Pools.sixteen(45);
        Check.due("a 17th", pool.simulate(seedFor(7 * 64), 1), 0);
        for (int u = 0; u <= 15; u++) {
            Check.due("buy for " + u, pool.simulate(seedFor(13 + 16 * u + 32768), 1), 1000);
        }
        SparePool good = Pools.sixteen(47);
        for (int v = 0; v <= 15; v++) {
            good.simulate(seedFor(8 + 256 * v), 1);
            Check.due("advance of " + v, good.simulate(seedFor(8 + 256 * v), 1), 16_100);
        }
        SparePool fifteen = Pools.with(3, 3, 3, 3, 3, 3, 3, 3, 3, 3, 3, 3, 3, 3, 3);
        IntPredicate another = r -> r % 16 == 1 && r / 64 % 8 == 7;
        Check.due("the 16th and no 17th", fifteen.simulate(seedFor(7 * 64, another), 2), 1000);
    }

    private static void comeTurns() {
        Check.says("0 to 2: come(r / 16 % 3, h, r / 64 % 8)");
        for (int sort = 0; sort <= 2; sort++) {
            for (int parts = 0; parts <= 7; parts++) {
                int bits = parts;
                int r = number(sort, x -> x / 64 % 8 == bits);
                one("parts " + parts, new SparePool(), r, parts == 7 ? 1000 : 0);
            }
            for (int h = 0; h <= 4; h++) {
                int owner = h;
                int r = number(sort, x -> x / 64 % 8 == 7 && x / 4096 % 5 == owner);
                IntPredicate advance = x -> x % 16 == 8 && x / 4096 % 5 == 1;
                two("owner " + h, new SparePool(), r, advance, h == 4 ? 1100 : 1000);
            }
            for (int kind = 0; kind <= 2; kind++) {
                int which = kind;
                // 1 owes a core of kind 1, and delivers what comes to it.
                SparePool pool = Pools.with(147);
                pool.advance(1, 0, 9);
                int r = number(sort, x -> x / 64 % 8 == 7 && x / 4096 % 5 == 1 && x / 16 % 3 == which);
                two("kind " + kind, pool, r, x -> x % 16 == 9 && x / 16 % 2 == 1, kind == 1 ? 2000 : 2100);
            }
        }
    }

    private static void lendAndBringTurns() {
        Check.says("3 and 4: lend(u, h, 1 + r / 32768 % 9) (a unit on loan is no good for advance())");
        IntPredicate advance = r -> r % 16 == 8 && r / 4096 % 5 == 1;
        for (int sort = 3; sort <= 4; sort++) {
            for (int h = 0; h <= 4; h++) {
                for (int days = 0; days <= 8; days++) {
                    int to = h;
                    int term = days;
                    int r = number(sort, x -> x / 4096 % 5 == to && x / 32768 % 9 == term);
                    two("lent to " + h, Pools.with(47), r, advance, h == 4 ? 1100 : 1000);
                }
            }
            int r = number(sort, x -> x / 16 % 2 == 1 && x / 4096 % 5 == 0);
            two("unit 1", Pools.with(47, 40), r, x -> advance.test(x) && x / 256 % 2 == 0, 1100);
            two("unit 1", Pools.with(40, 47), r, x -> advance.test(x) && x / 256 % 2 == 1, 1000);
        }

        Check.says("5: bring(u) (then it is good again)");
        SparePool lent = Pools.with(47, 47);
        lent.lend(0, 0, 3);
        lent.lend(1, 0, 3);
        for (int u = 0; u <= 1; u++) {
            for (int v = 0; v <= 1; v++) {
                int brought = u;
                int given = v;
                int r = number(5, x -> x / 16 % 2 == brought);
                two("bring", lent, r, x -> advance.test(x) && x / 256 % 2 == given, u == v ? 2100 : 2000);
            }
        }
        two("not brought", lent, 15, advance, 2000);
    }

    private static void exchangeTurns() {
        Check.says("6 and 7: exchange(u, v) (then u is the pool's, and v is not)");
        IntPredicate the0th = r -> r % 16 == 8 && r / 256 % 2 == 0 && r / 4096 % 5 == 1;
        IntPredicate the1st = r -> r % 16 == 8 && r / 256 % 2 == 1 && r / 4096 % 5 == 1;
        for (int sort = 6; sort <= 7; sort++) {
            int done = number(sort, x -> x / 16 % 2 == 0 && x / 256 % 2 == 1);
            int refused = number(sort, x -> x / 16 % 2 == 1 && x / 256 % 2 == 0);
            two("the core", Pools.with(7, 47), done, the0th, 2100);
            two("the good one", Pools.with(7, 47), done, the1st, 2000);
            two("no exchange: the core", Pools.with(7, 47), refused, the0th, 2000);
            two("no exchange: the good one", Pools.with(7, 47), refused, the1st, 2100);
        }

        Check.says("8: advance(h, v, 1 + r / 32768 % 9)");
        for (int h = 0; h <= 4; h++) {
            for (int v = 0; v <= 2; v++) {
                for (int days = 0; days <= 8; days++) {
                    int to = h;
                    int unit = v;
                    int term = days;
                    int r = number(8, x -> x / 4096 % 5 == to && x / 256 % 3 == unit && x / 32768 % 9 == term);
                    one("advance of " + v, Pools.with(147, 46, 17), r, h != 4 && v == 0 ? 2100 : 2000);
                }
            }
        }

        Check.says("9: deliver(u)");
        SparePool owing = Pools.with(47, 7, 107);
        owing.advance(0, 0, 3);
        for (int u = 0; u <= 2; u++) {
            int unit = u;
            one("deliver " + u, owing, number(9, x -> x / 16 % 3 == unit), u == 2 ? 3100 : 3000);
        }
    }

    private static void partTurns() {
        Check.says("10 to 12: take(u, v, r / 32768 % 3)");
        SparePool own = Pools.with(7, 6);
        SparePool both = Pools.with(7, 10);
        both.lend(0, 1, 3);
        for (int sort = 10; sort <= 12; sort++) {
            for (int i = 0; i < 12; i++) {
                int u = i / 6;
                int v = i / 3 % 2;
                int part = i % 3;
                int r = number(sort, x -> x / 16 % 2 == u && x / 256 % 2 == v && x / 32768 % 3 == part);
                one("among own ones", own, r, 1000);
                one("for another's", both, r, u == 0 && v == 1 ? 1 : 1000);
                // Only what was taken from the unit 0 can be bought for it.
                int bought = u == 0 && v == 1 && part == 0 ? 2000 : 1000;
                two("and bought", own, r, x -> x % 16 == 13 && x / 16 % 2 == 0 && x / 32768 % 3 == 0, bought);
            }
        }

        Check.says("13: buy(u, r / 32768 % 3)");
        SparePool gaps = Pools.with(6, 15, 43);
        for (int u = 0; u <= 2; u++) {
            for (int part = 0; part <= 2; part++) {
                int unit = u;
                int which = part;
                int r = number(13, x -> x / 16 % 3 == unit && x / 32768 % 3 == which);
                one("buy", gaps, r, u == part ? 1000 : 0);
            }
        }

        Check.says("14: settle(h, r / 32768 % 5, r / 16 % 3, r / 64 % 3)");
        SparePool debt = Pools.with(247, 230);
        debt.lend(0, 3, 3);
        debt.take(0, 1, 1);
        for (int i = 0; i < 225; i++) {
            int h = i / 45;
            int other = i / 9 % 5;
            int kind = i / 3 % 3;
            int part = i % 3;
            int r = number(14, x -> x / 4096 % 5 == h && x / 32768 % 5 == other && x / 16 % 3 == kind
                    && x / 64 % 3 == part);
            one("settle " + i, debt, r, h == 3 && other == 4 && kind == 2 && part == 1 ? 0 : 1);
        }

        Check.says("15: days(1 + r / 32768 % 9)");
        for (int days = 0; days <= 8; days++) {
            int n = days;
            one("days", debt, number(15, x -> x / 32768 % 9 == n), 1);
        }
    }

    private static void whatIsReturned() {
        Check.says("Returns 1000 * (the usable units at the end) + 100 * (the cores that are owed at the end) + (the "
                + "parts that are owed at the end)");
        int days = 15;
        Check.due("nothing", new SparePool().simulate(seedFor(days), 1), 0);
        SparePool pool = Pools.sixteen(47);
        Check.due("16 usable ones", pool.simulate(seedFor(days), 1), 16_000);
        for (int v = 0; v < 16; v++) {
            pool.advance(v / 5, v, 1);
        }
        Check.due("and 16 cores", pool.simulate(seedFor(days), 1), 17_600);
        SparePool parts = new SparePool();
        for (int u = 0; u < 16; u++) {
            parts.come(0, u % 2, u % 2 == 0 ? 7 : 0);
        }
        for (int u = 0; u < 16; u += 2) {
            parts.lend(u, 1, 1);
            parts.take(u, u + 1, 0);
            parts.take(u, u + 1, 1);
            parts.take(u, u + 1, 2);
        }
        Check.due("8 usable ones and 24 parts", parts.simulate(seedFor(days), 1), 8_024);
    }

    private static void onACopy() {
        Check.says("Simulates m turns on a copy of the state");
        for (int seed = 0; seed < 12; seed++) {
            long from = seed * 1_000_000_007L;
            Unchanged.by("simulate", Pools::busy, x -> x.simulate(from, 99));
        }
        SparePool pool = Pools.busy();
        int first = pool.simulate(3, 99);
        for (int i = 0; i < 20; i++) {
            pool.simulate(i, 99);
            Check.due("again the same", pool.simulate(3, 99), first);
        }
        pool.runScript(1, 601_200L);
        Check.due("and behind a script", pool.simulate(3, 99), first);
    }
}
