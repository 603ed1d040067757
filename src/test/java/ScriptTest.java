/** Promise 30: runScript. */
public final class ScriptTest {
    public static void main(String[] args) {
        whatIsOutOfRange();
        eachCommandSucceedsAndFails();
        otherGroupsFail();
        theFirstThatFailsIsTold();
        whatCostsNothingSucceeds();
        zerosBefore();
        theStateStays();
        Check.finish("ScriptTest");
    }

    /** Units: 0 and 1 the pool's of kind 0, 2 of 0 with part 0, 3 of 1 lent to 0, 4 of 2 of kind 1. */
    private static SparePool pool() {
        SparePool pool = new SparePool();
        pool.come(0, 4, 7);
        pool.come(0, 4, 6);
        pool.come(0, 0, 1);
        pool.come(0, 1, 6);
        pool.come(1, 2, 7);
        pool.lend(3, 0, 2);
        return pool;
    }

    private static void one(long script, boolean succeeds) {
        Check.due("script " + script, pool().runScript(1, script), succeeds ? -1 : 0);
    }

    private static void whatIsOutOfRange() {
        SparePool pool = pool();
        Check.noArgument("n 0", () -> pool.runScript(0, 0));
        Check.noArgument("n 4", () -> pool.runScript(4, 0));
        Check.noArgument("n -1", () -> pool.runScript(-1, 0));
        Check.noArgument("n min", () -> pool.runScript(Integer.MIN_VALUE, 0));
        Check.noArgument("script -1", () -> pool.runScript(1, -1));
        Check.noArgument("script min", () -> pool.runScript(3, Long.MIN_VALUE));
        Check.noArgument("7 digits", () -> pool.runScript(1, 1_000_000L));
        Check.noArgument("13 digits", () -> pool.runScript(2, 1_000_000_000_000L));
        Check.noArgument("19 digits", () -> pool.runScript(3, 1_000_000_000_000_000_000L));
        Check.noArgument("script max", () -> pool.runScript(3, Long.MAX_VALUE));
        Check.due("6 digits", pool.runScript(1, 999_999L), 0);
        Check.due("12 digits", pool.runScript(2, 999_999_999_999L), 0);
        Check.due("18 digits", pool.runScript(3, 999_999_999_999_999_999L), 0);
        Check.due("script 0", pool.runScript(3, 0), 0);
    }

    private static void eachCommandSucceedsAndFails() {
        one(104_130, true);
        one(104_101, true);
        one(104_100, false);
        one(104_131, false);
        one(104_201, false);
        one(104_501, false);
        one(103_201, false);
        one(105_101, false);
        one(116_101, false);
        one(200_003, true);
        one(200_002, false);
        one(200_005, false);
        one(302_000, true);
        one(302_010, false);
        one(300_020, false);
        one(302_050, false);
        one(403_020 + 1, true);
        one(403_020 + 2, true);
        one(403_020, false);
        one(403_023, false);
        one(403_041, false);
        one(500_001, true);
        one(500_099, true);
        one(500_000, false);
        one(602_100, true);
        one(602_200, true);
        one(602_000, false);
        one(602_300, false);
        one(605_100, false);
        one(703_000, true);
        one(703_100, false);
        one(700_400, true);
        one(700_500, false);
        one(705_000, false);
        one(800_000, true);
        one(845_000, true);
        one(845_010, false);
        one(844_990, true);
        one(850_000, false);
        one(900_002, true);
        one(900_003, false);
        one(900_000, true);
    }

    private static void otherGroupsFail() {
        one(0, false);
        one(4_130, false);
        one(99_999, false);
        one(210_003, false);
        one(201_003, false);
        one(200_103, false);
        one(302_001, false);
        one(510_001, false);
        one(501_001, false);
        one(500_101, false);
        one(602_110, false);
        one(602_101, false);
        one(703_010, false);
        one(703_001, false);
        one(800_001, false);
        one(910_001, false);
        one(901_001, false);
        one(900_100, false);
        Check.due("all 0 before", pool().runScript(1, 199_999), 0);
    }

    private static void theFirstThatFailsIsTold() {
        SparePool pool = pool();
        Check.due("all succeed", pool.runScript(3, 500_009_200_003_815_350L), -1);
        Check.due("it got just 35", pool.runScript(3, 500_009_200_003_815_360L), 2);
        Check.due("it paid 35", pool.runScript(3, 500_009_200_003_804_660L), 2);
        Check.due("it paid just 35", pool.runScript(3, 500_009_200_003_804_650L), -1);
        Check.due("the first", pool.runScript(3, 200_002_500_001_500_001L), 0);
        Check.due("the second", pool.runScript(3, 500_001_200_002_200_002L), 1);
        Check.due("the third", pool.runScript(3, 500_001_200_003_200_003L), 2);
        Check.due("of two", pool.runScript(2, 200_003_200_003L), 1);
        Check.due("bought, so one more is usable", pool.runScript(2, 601_000_900_003L), -1);
        Check.due("and then exchanged", pool.runScript(3, 601_000_302_010_701_000L), -1);
    }

    private static void whatCostsNothingSucceeds() {
        SparePool pool = pool();
        pool.set(1, 0);
        pool.set(2, 0);
        Check.due("an exchange for nothing", pool.runScript(1, 302_000), -1);
        pool.come(0, 1, 3);
        pool.lend(5, 0, 2);
        Check.due("a part among own ones", pool.runScript(1, 403_050), 0);
        Check.due("a part owed to no one", pool.runScript(1, 403_052), -1);
    }

    private static void zerosBefore() {
        SparePool pool = pool();
        Check.due("no first command", pool.runScript(2, 500_001L), 0);
        Check.due("no first of three", pool.runScript(3, 500_001_500_001L), 0);
    }

    private static void theStateStays() {
        SparePool pool = pool();
        pool.runScript(3, 500_009_200_003_302_000L);
        pool.runScript(3, 403_021_602_200_104_130L);
        pool.runScript(3, 200_003_200_003_200_003L);
        Check.same("as before", Look.at(pool), Look.at(pool()));
        SparePool other = pool();
        other.runScript(1, 500_001L);
        Check.due("no state is remembered", other.undo(), 5);
    }
}
