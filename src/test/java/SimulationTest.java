/** Promise 31: simulate. */
public final class SimulationTest {
    public static void main(String[] args) {
        whatIsOutOfRange();
        oneTurnFromAKnownSeed();
        itDoesWhatTheCallsWouldDo();
        theStateStays();
        Check.finish("SimulationTest");
    }

    private static void whatIsOutOfRange() {
        SparePool pool = new SparePool();
        Check.noArgument("m 0", () -> pool.simulate(0, 0));
        Check.noArgument("m 100", () -> pool.simulate(0, 100));
        Check.noArgument("m -1", () -> pool.simulate(0, -1));
        Check.noArgument("m min", () -> pool.simulate(Long.MIN_VALUE, Integer.MIN_VALUE));
        Outcome.of(() -> pool.simulate(Long.MIN_VALUE, 99));
        Check.due("units", pool.about(1), 0);
    }

    /** The seed that leads to this r in the first turn: the step undone. */
    private static long seedFor(int r) {
        long inverse = 1;
        for (int i = 0; i < 6; i++) {
            inverse *= 2 - 6364136223846793005L * inverse;
        }
        return (((long) r << 33) - 1442695040888963407L) * inverse;
    }

    private static void oneTurnFromAKnownSeed() {
        SparePool pool = new SparePool();
        Check.due("come with all parts", pool.simulate(seedFor(7 * 64), 1), 1000);
        Check.due("come with less", pool.simulate(seedFor(6 * 64 + 1), 1), 0);
        Check.due("come by 2", pool.simulate(seedFor(7 * 64 + 2), 1), 1000);
        Check.due("nothing to lend", pool.simulate(seedFor(3), 1), 0);
        pool.come(0, 4, 7);
        Check.due("advance", pool.simulate(seedFor(8 + 4096), 1), 1100);
        Check.due("advance to the pool", pool.simulate(seedFor(8 + 4 * 4096), 1), 1000);
        pool.come(0, 1, 3);
        Check.due("buy", pool.simulate(seedFor(13 + 16 + 2 * 32768), 1), 2000);
        Check.due("buy what is there", pool.simulate(seedFor(13 + 16 + 32768), 1), 1000);
        pool.lend(0, 1, 3);
        Check.due("take part 2 of unit 0 for 1", pool.simulate(seedFor(10 + 256 + 2 * 32768), 1), 1001);
        pool.take(0, 1, 2);
        Check.due("settle what 1 owes 4", pool.simulate(seedFor(14 + 9 * 16 + 4 * 4096 + 4 * 32768), 1), 1000);
        Check.due("settle another part", pool.simulate(seedFor(14 + 12 * 16 + 4 * 4096 + 4 * 32768), 1), 1001);
        pool.bring(0);
        pool.buy(0, 2);
        Check.due("exchange 1 for 0", pool.simulate(seedFor(6 + 16), 1), 2001);
        pool.advance(2, 0, 4);
        Check.due("deliver 0", pool.simulate(seedFor(9), 1), 2001);
        Check.due("deliver 1, which owes none", pool.simulate(seedFor(9 + 16), 1), 2101);
    }

    private static void itDoesWhatTheCallsWouldDo() {
        for (int seed = -40; seed < 40; seed++) {
            SparePool pool = new SparePool();
            for (int i = 0; i < Math.floorMod(seed, 9); i++) {
                pool.come(i % 2, i % 3 == 0 ? 4 : i % 4, 7);
            }
            int m = 1 + Math.floorMod(seed * 37, 99);
            int told = pool.simulate(seed * 1_000_003L, m);
            long x = seed * 1_000_003L;
            for (int i = 0; i < m; i++) {
                x = x * 6364136223846793005L + 1442695040888963407L;
                int r = (int) (x >>> 33);
                Outcome.of(() -> turn(pool, r));
            }
            Check.due("simulate " + seed, told, 1000 * pool.about(2) + 100 * pool.about(5) + pool.about(6));
        }
    }

    private static int turn(SparePool pool, int r) {
        int n = Math.max(1, pool.about(1));
        int u = r / 16 % n;
        int v = r / 256 % n;
        int h = r / 4096 % 5;
        int w = r / 32768;
        switch (r % 16) {
            case 0: case 1: case 2: return pool.come(r / 16 % 3, h, r / 64 % 8);
            case 3: case 4: return pool.lend(u, h, 1 + w % 9);
            case 5: return pool.bring(u);
            case 6: case 7: return pool.exchange(u, v);
            case 8: return pool.advance(h, v, 1 + w % 9);
            case 9: return pool.deliver(u);
            case 10: case 11: case 12: return pool.take(u, v, w % 3);
            case 13: return pool.buy(u, w % 3);
            case 14: return pool.settle(h, w % 5, r / 16 % 3, r / 64 % 3);
            default: return pool.days(1 + w % 9);
        }
    }

    private static void theStateStays() {
        SparePool pool = new SparePool();
        SparePool same = new SparePool();
        pool.come(0, 4, 7);
        same.come(0, 4, 7);
        for (int seed = 0; seed < 20; seed++) {
            Check.due("again the same", pool.simulate(seed, 99), pool.simulate(seed, 99));
        }
        Check.due("no state is remembered", pool.undo(), 0);
        same.undo();
        Check.same("as before", Look.at(pool), Look.at(same));
    }
}
