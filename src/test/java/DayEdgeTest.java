/** Promises 21 and 22, days and set, sentence by sentence. */
public final class DayEdgeTest {
    private static final int MIN = Integer.MIN_VALUE;
    private static final int MAX = Integer.MAX_VALUE;

    public static void main(String[] args) {
        daysHowMany();
        daysReturns();
        setWhich();
        setHowMuch();
        setReturns();
        Check.finish("DayEdgeTest");
    }

    private static void daysHowMany() {
        Check.says("n: 1 to 99. Throws IllegalArgumentException if n is out of range (days)");
        int[] wrong = {-99, -1, 0, 100, MIN, MAX};
        for (int n : wrong) {
            Unchanged.noArgument("days(" + n + ")", Pools::busy, x -> x.days(n));
            Unchanged.noArgument("days(" + n + ") of a new one", SparePool::new, x -> x.days(n));
        }
        for (int n = 1; n <= 99; n++) {
            Check.due("days", new SparePool().days(n), n);
            Check.due("days of a busy one", Pools.busy().days(n), 5 + n);
        }
    }

    private static void daysReturns() {
        Check.says("Lets days go by. Returns today then");
        SparePool pool = new SparePool();
        int today = 0;
        for (int n = 1; n <= 99; n++) {
            today += n;
            Check.due("days", pool.days(n), today);
            Check.due("today", pool.about(0), today);
        }
        SparePool busy = Pools.busy();
        busy.days(99);
        Check.due("nothing is paid yet", busy.holder(2, 0), 0);
        Check.due("the due day stays", busy.unit(2, 4), 2);
        Check.due("the core's too", busy.core(2, 0, 1), 3);
    }

    private static void setWhich() {
        Check.says("what: 0 to 2. Throws IllegalArgumentException if what or v is out of range (set)");
        int[] wrong = {-1, 3, 4, MIN, MAX};
        for (int what : wrong) {
            Unchanged.noArgument("set(" + what + ", 0)", Pools::busy, x -> x.set(what, 0));
            Unchanged.noArgument("set(" + what + ", 1000)", Pools::busy, x -> x.set(what, 1000));
        }
    }

    private static void setHowMuch() {
        Check.says("v: the new value, in its range: 0 to 99, 0 to 999, 0 to 999");
        int[] most = {99, 999, 999};
        for (int what = 0; what <= 2; what++) {
            int which = what;
            int[] wrong = {-1, most[what] + 1, MIN, MAX};
            for (int v : wrong) {
                Unchanged.noArgument("set(" + what + ", " + v + ")", Pools::busy, x -> x.set(which, v));
            }
            int[] right = {0, 1, most[what] - 1, most[what]};
            for (int v : right) {
                SparePool pool = Pools.busy();
                pool.set(what, v);
                for (int each = 0; each <= 2; each++) {
                    int was = each == 0 ? 5 : each == 1 ? 90 : 20;
                    Check.due("setting " + each, pool.setting(each), each == what ? v : was);
                }
            }
        }
        Check.due("100 is too much for the late fee alone", new SparePool().set(1, 100), 100);
        Check.due("and for the price of a part it is not", new SparePool().set(2, 100), 20);
    }

    private static void setReturns() {
        Check.says("Returns the previous one");
        SparePool pool = new SparePool();
        int[] first = {5, 100, 20};
        for (int what = 0; what <= 2; what++) {
            Check.due("the first", pool.set(what, 7), first[what]);
            Check.due("the same again", pool.set(what, 7), 7);
            Check.due("another", pool.set(what, 0), 7);
            Check.due("behind 0", pool.set(what, 99), 0);
        }
    }
}
