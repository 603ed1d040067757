/** Promise 30, runScript, sentence by sentence. */
public final class ScriptEdgeTest {
    public static void main(String[] args) {
        howManyCommands();
        howManyDigits();
        theHighestFirst();
        everyGroup();
        lendGroups();
        bringGroups();
        exchangeGroups();
        takeGroups();
        daysGroups();
        buyGroups();
        placeGroups();
        accountGroups();
        usableGroups();
        otherGroups();
        theFirstThatFails();
        onACopy();
        Check.finish("ScriptEdgeTest");
    }

    private static void howManyCommands() {
        Check.says("n: number of commands, 1 to 3. Throws IllegalArgumentException if n is out of range");
        int[] wrong = {-1, 0, 4, Integer.MIN_VALUE, Integer.MAX_VALUE};
        for (int n : wrong) {
            Unchanged.noArgument("n " + n, Pools::busy, x -> x.runScript(n, 500_001L));
            Unchanged.noArgument("n " + n + " and 0", Pools::busy, x -> x.runScript(n, 0));
            Unchanged.noArgument("n " + n + " and -1", Pools::busy, x -> x.runScript(n, -1));
        }
        Check.due("one", Pools.busy().runScript(1, 500_001L), -1);
        Check.due("two", Pools.busy().runScript(2, 500_001_500_001L), -1);
        Check.due("three", Pools.busy().runScript(3, 500_001_500_001_500_001L), -1);
    }

    private static void howManyDigits() {
        Check.says("or if script is negative or has more than 6 * n digits");
        long limit = 1;
        for (int commands = 1; commands <= 3; commands++) {
            int n = commands;
            limit *= 1_000_000;
            long tooMany = limit;
            Unchanged.noArgument("-1", Pools::busy, x -> x.runScript(n, -1));
            Unchanged.noArgument("min", Pools::busy, x -> x.runScript(n, Long.MIN_VALUE));
            Unchanged.noArgument("max", Pools::busy, x -> x.runScript(n, Long.MAX_VALUE));
            Unchanged.noArgument("-500001", Pools::busy, x -> x.runScript(n, -500_001L));
            Unchanged.noArgument("a digit more", Pools::busy, x -> x.runScript(n, tooMany));
            Unchanged.noArgument("one more than that", Pools::busy, x -> x.runScript(n, tooMany + 1));
            Check.due("the largest", Pools.busy().runScript(n, limit - 1), 0);
            Check.due("0", Pools.busy().runScript(n, 0), 0);
            Check.due("1", Pools.busy().runScript(n, 1), 0);
        }
        Check.due("18 digits, all right", Pools.with(17).runScript(3, 900_001_900_001_900_001L), -1);

        Check.says("a number of at most 6 * n digits (fewer than 7 for 1 command, fewer than 13 for 2)");
        Unchanged.noArgument("two commands as one", Pools::busy, x -> x.runScript(1, 500_001_500_001L));
        Unchanged.noArgument("three as two", Pools::busy, x -> x.runScript(2, 500_001_500_001_500_001L));
    }

    private static void theHighestFirst() {
        Check.says("the first command is the highest group of the number (with zeros before it, if it has fewer digits)");
        SparePool pool = Pools.with(17);
        Check.due("lent, then there", pool.runScript(2, 100_201_700_200L), -1);
        Check.due("there, then lent", pool.runScript(2, 700_200_100_201L), 0);
        Check.due("lent, there, brought", pool.runScript(3, 100_201_700_200_200_000L), -1);
        Check.due("lent, brought, there", pool.runScript(3, 100_201_200_000_700_200L), 2);
        Check.due("the first of two is all zeros", pool.runScript(2, 500_001L), 0);
        Check.due("the first of three is all zeros", pool.runScript(3, 500_001_500_001L), 0);
        Check.due("zeros before the first digit", pool.runScript(2, 1_500_001L), 0);
        Check.due("five digits", pool.runScript(1, 50_001L), 0);
    }

    /** The busy pool with 16 units, some without parts. */
    private static SparePool full() {
        SparePool pool = Pools.busy();
        for (int u = 9; u < 16; u++) {
            pool.come(u % 3, u % 5, u % 2 == 0 ? 7 : 8 - u / 2);
        }
        return pool;
    }

    private static void everyGroup() {
        Check.says("so does any other group (all groups of six digits)");
        everyGroupFrom(ScriptEdgeTest::full);
        everyGroupFrom(SparePool::new);
    }

    private static void everyGroupFrom(Unchanged.Make make) {
        SparePool direct = make.pool();
        SparePool scripted = make.pool();
        int calls = 0;
        for (int group = 0; group <= 999_999; group++) {
            boolean want = asCalls(direct, group);
            Check.due("group " + group, scripted.runScript(1, group), want ? -1 : 0);
            calls++;
            if (calls == 120) {
                direct = make.pool();
                scripted = make.pool();
                calls = 0;
            }
        }
    }

    /** Whether the calls that the group stands for do not throw; what they did is taken back. */
    private static boolean asCalls(SparePool pool, int group) {
        int d2 = group / 10_000 % 10;
        int d4 = group / 100 % 10;
        int d6 = group % 10;
        int uu = group / 1_000 % 100;
        int vv = group / 10 % 100;
        int last = group % 100;
        int middle = group / 100 % 1_000;
        switch (group / 100_000) {
            case 1: return done(pool, () -> pool.lend(uu, d4, last));
            case 2: return middle == 0 && done(pool, () -> pool.bring(last));
            case 3: return d6 == 0 && done(pool, () -> pool.exchange(uu, vv));
            case 4: return done(pool, () -> pool.take(uu, vv, d6));
            case 5: return middle == 0 && done(pool, () -> pool.days(last));
            case 6: return last == 0 && done(pool, () -> pool.buy(uu, d4));
            case 7: return last == 0 && Outcome.of(() -> pool.unit(uu, 2)).equals("" + d4);
            case 8: return d6 == 0 && d2 <= 4 && pool.holder(d2, 0) >= group / 10 % 1_000 - 500;
            case 9: return middle == 0 && pool.about(2) >= last;
            default: return false;
        }
    }

    private static boolean done(SparePool pool, Check.Call call) {
        if (Outcome.of(call).endsWith("Exception")) {
            return false;
        }
        pool.undo();
        return true;
    }

    private static void group(Unchanged.Make make, int group, boolean succeeds) {
        Check.due("group " + group, make.pool().runScript(1, group), succeeds ? -1 : 0);
    }

    private static void lendGroups() {
        Check.says("1 u u h d d: lend(uu, h, dd)");
        group(Pools::busy, 100_001, true);
        group(Pools::busy, 100_030, true);
        group(Pools::busy, 100_000, false);
        group(Pools::busy, 100_031, false);
        group(Pools::busy, 100_099, false);
        group(Pools::busy, 100_301, true);
        group(Pools::busy, 100_401, false);
        group(Pools::busy, 100_501, false);
        group(Pools::busy, 108_001, true);
        group(Pools::busy, 109_001, false);
        group(Pools::busy, 102_001, false);
        group(ScriptEdgeTest::full, 115_130, true);
        group(ScriptEdgeTest::full, 116_130, false);
        group(ScriptEdgeTest::full, 199_130, false);
    }

    private static void bringGroups() {
        Check.says("2 0 0 0 u u: bring(uu)");
        group(Pools::busy, 200_002, true);
        group(Pools::busy, 200_004, true);
        group(Pools::busy, 200_000, false);
        group(Pools::busy, 200_009, false);
        Check.due("in time, so for nothing", Pools.busy().runScript(1, 200_004), -1);
        group(Pools::busy, 200_099, false);
        for (int digit = 1; digit <= 9; digit++) {
            group(Pools::busy, 200_002 + 100 * digit, false);
            group(Pools::busy, 200_002 + 1_000 * digit, false);
            group(Pools::busy, 200_002 + 10_000 * digit, false);
        }
    }

    private static void exchangeGroups() {
        Check.says("3 u u v v 0: exchange(uu, vv)");
        group(Pools::busy, 303_000, true);
        group(Pools::busy, 303_010, false);
        group(Pools::busy, 303_090, false);
        group(Pools::busy, 309_000, false);
        group(Pools::busy, 304_000, false);
        for (int digit = 1; digit <= 9; digit++) {
            group(Pools::busy, 303_000 + digit, false);
        }
        SparePool free = Pools.with(3, 47);
        free.set(1, 0);
        free.set(2, 0);
        Check.due("for nothing", free.runScript(1, 300_010), -1);
        SparePool pool = Pools.sixteen(47);
        pool.undo();
        pool.come(0, 0, 7);
        Check.due("units 15 and 0", pool.runScript(1, 315_000), -1);
        Check.due("units 0 and 15", pool.runScript(1, 300_150), 0);
        Check.due("and back", pool.runScript(2, 315_000_300_150L), -1);
        Check.due("unit 16", pool.runScript(1, 315_160), 0);
    }

    private static void takeGroups() {
        Check.says("4 u u v v p: take(uu, vv, p)");
        group(Pools::busy, 404_052, true);
        group(Pools::busy, 404_053, false);
        group(Pools::busy, 404_059, false);
        group(Pools::busy, 404_050, false);
        group(Pools::busy, 404_092, false);
        group(Pools::busy, 409_052, false);
        group(Pools::busy, 400_012, true);
        group(() -> Pools.with(7, 0), 400_010, true);
        group(() -> Pools.with(7, 0), 400_011, true);
        group(() -> Pools.with(7, 0), 400_012, true);
        group(() -> Pools.with(7, 0), 400_013, false);
    }

    private static void daysGroups() {
        Check.says("5 0 0 0 n n: days(nn)");
        group(Pools::busy, 500_000, false);
        for (int n = 1; n <= 99; n++) {
            group(SparePool::new, 500_000 + n, true);
        }
        for (int digit = 1; digit <= 9; digit++) {
            group(Pools::busy, 500_001 + 100 * digit, false);
            group(Pools::busy, 500_001 + 1_000 * digit, false);
            group(Pools::busy, 500_001 + 10_000 * digit, false);
        }
    }

    private static void buyGroups() {
        Check.says("6 u u p 0 0: buy(uu, p)");
        group(Pools::busy, 601_200, true);
        group(Pools::busy, 601_000, false);
        group(Pools::busy, 601_300, false);
        group(Pools::busy, 601_900, false);
        group(Pools::busy, 609_000, false);
        for (int digit = 1; digit <= 9; digit++) {
            group(Pools::busy, 601_200 + digit, false);
            group(Pools::busy, 601_200 + 10 * digit, false);
        }
    }

    private static void placeGroups() {
        Check.says("7 u u h 0 0: succeeds if the unit uu is at the place of the holder h");
        int[] places = {4, 4, 2, 0, 3, 3, 1, 4, 2};
        for (int u = 0; u <= 9; u++) {
            for (int h = 0; h <= 9; h++) {
                group(Pools::busy, 700_000 + 1_000 * u + 100 * h, u < places.length && places[u] == h);
            }
        }
        for (int digit = 1; digit <= 9; digit++) {
            group(Pools::busy, 700_400 + digit, false);
            group(Pools::busy, 700_400 + 10 * digit, false);
        }
        group(SparePool::new, 700_000, false);
        group(ScriptEdgeTest::full, 715_000, true);
        group(ScriptEdgeTest::full, 716_000, false);
    }

    private static SparePool account(int money) {
        SparePool pool = Pools.with(17, 30);
        if (money < 0) {
            pool.set(2, -money);
            pool.buy(1, 0);
        } else {
            pool.lend(0, 3, 1);
            pool.take(0, 1, 0);
            pool.bring(0);
            pool.set(2, money);
            pool.settle(3, 1, 0, 0);
        }
        return pool;
    }

    private static void accountGroups() {
        Check.says("8 h x y z 0: succeeds if the account of the holder h is at least xyz - 500");
        int[] monies = {-999, -501, -500, -499, -1};
        for (int money : monies) {
            for (int xyz = 0; xyz <= 999; xyz++) {
                if (xyz <= 2 || Math.abs(xyz - 500 - money) <= 2 || xyz >= 998) {
                    group(() -> account(money), 830_000 + 10 * xyz, money >= xyz - 500);
                }
            }
        }
        int[] more = {0, 1, 498, 499, 500, 999};
        for (int money : more) {
            for (int xyz = 0; xyz <= 999; xyz++) {
                if (xyz <= 2 || Math.abs(xyz - 500 - money) <= 2 || xyz >= 998) {
                    group(() -> account(money), 810_000 + 10 * xyz, money >= xyz - 500);
                }
            }
        }
        for (int h = 0; h <= 9; h++) {
            group(SparePool::new, 800_000 + 10_000 * h, h <= 4);
            group(SparePool::new, 805_000 + 10_000 * h, h <= 4);
            group(SparePool::new, 805_010 + 10_000 * h, false);
        }
        for (int digit = 1; digit <= 9; digit++) {
            group(SparePool::new, 800_000 + digit, false);
        }
    }

    private static void usableGroups() {
        Check.says("9 0 0 0 n n: succeeds if at least nn units are usable");
        for (int n = 0; n <= 99; n++) {
            group(() -> Pools.sixteen(27), 900_000 + n, n <= 16);
            group(SparePool::new, 900_000 + n, n == 0);
            group(Pools::busy, 900_000 + n, n <= 4);
        }
        for (int digit = 1; digit <= 9; digit++) {
            group(Pools::busy, 900_001 + 100 * digit, false);
            group(Pools::busy, 900_001 + 1_000 * digit, false);
            group(Pools::busy, 900_001 + 10_000 * digit, false);
        }
    }

    private static void otherGroups() {
        Check.says("commands with units or holders that do not exist fail, and so does any other group");
        for (int group = 0; group <= 99_999; group += 41) {
            group(Pools::busy, group, false);
        }
        group(Pools::busy, 0, false);
        group(Pools::busy, 99_999, false);
        group(SparePool::new, 100_001, false);
        group(SparePool::new, 200_000, false);
        group(SparePool::new, 300_000, false);
        group(SparePool::new, 400_000, false);
        group(SparePool::new, 600_000, false);
    }

    private static void theFirstThatFails() {
        Check.says("Returns the index, from 0, of the first command that fails; NONE if all succeed");
        long right = 500_001;
        long wrong = 200_000;
        for (int bits = 0; bits < 8; bits++) {
            long first = (bits & 1) == 0 ? right : wrong;
            long second = (bits & 2) == 0 ? right : wrong;
            long third = (bits & 4) == 0 ? right : wrong;
            int three = bits == 0 ? -1 : Integer.numberOfTrailingZeros(bits);
            int two = (bits & 3) == 0 ? -1 : Integer.numberOfTrailingZeros(bits & 3);
            Check.due("of three", Pools.busy().runScript(3, (first * 1_000_000 + second) * 1_000_000 + third), three);
            Check.due("of two", Pools.busy().runScript(2, first * 1_000_000 + second), two);
            Check.due("of one", Pools.busy().runScript(1, first), first == right ? -1 : 0);
        }

        Check.says("The commands 1 to 6 fail if the method would throw an exception (behind those before them)");
        SparePool pool = Pools.with(47, 10);
        Check.due("buy, and no second time", pool.runScript(2, 601_000_601_000L), 1);
        Check.due("buy all three", pool.runScript(3, 601_000_601_100_601_200L), -1);
        Check.due("exchange, and not back for a gap", pool.runScript(2, 301_000_300_010L), 1);
        Check.due("late: 1 pays 5 of its 0", pool.runScript(3, 100_101_500_002_200_000L), -1);
        Check.due("lend, and no second time", pool.runScript(2, 100_101_100_201L), 1);
        Check.due("take for another's", pool.runScript(2, 100_101_400_012L), -1);
        Check.due("bring, and no second time", pool.runScript(3, 100_101_200_000_200_000L), 2);
    }

    private static void onACopy() {
        Check.says("Runs a script on a copy of the state");
        long[] scripts = {500_099_200_002_303_000L, 404_052_601_200_100_130L, 200_002_200_004_200_009L, 0L};
        for (long script : scripts) {
            Unchanged.by("script " + script, Pools::busy, x -> x.runScript(3, script));
        }
        Check.due("it succeeds", Pools.busy().runScript(3, scripts[0]), -1);
        Check.due("it succeeds", Pools.busy().runScript(3, scripts[1]), -1);
        SparePool pool = Pools.busy();
        Check.due("once", pool.runScript(1, 601_200L), -1);
        Check.due("and again", pool.runScript(1, 601_200L), -1);
        pool.simulate(5, 99);
        Check.due("and behind a simulation", pool.runScript(1, 601_200L), -1);
    }
}
