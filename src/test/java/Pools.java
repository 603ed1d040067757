/** Pools for a test to begin with. */
final class Pools {
    private Pools() {
    }

    /** Units by numbers of three digits: kind, owner, parts. */
    static SparePool with(int... units) {
        SparePool pool = new SparePool();
        for (int unit : units) {
            pool.come(unit / 100, unit / 10 % 10, unit % 10);
        }
        return pool;
    }

    /** Sixteen units alike. */
    static SparePool sixteen(int unit) {
        SparePool pool = new SparePool();
        for (int u = 0; u < 16; u++) {
            pool.come(unit / 100, unit / 10 % 10, unit % 10);
        }
        return pool;
    }

    static SparePool text(String text) {
        SparePool pool = new SparePool();
        write(pool, text);
        return pool;
    }

    static void write(SparePool pool, String text) {
        for (int i = 0; i < text.length(); i++) {
            pool.append(text.charAt(i));
        }
    }

    /**
     * Some of all: 18 actions, a text, a state in slot 0. Units of kind 0: of the pool 0, good, 1, with a gap, 2, lent
     * to 2 and late; of 0 3, with gaps; of 1 4, lent to 3; of 3 5, for which parts of 4 were taken: one is owed, one
     * is paid. Units of kind 1: 6, of 1, with a gap, 7, of the pool, good. Unit 8, of kind 2, has gone to 2 in
     * advance, so that 2 owes a core.
     */
    static SparePool busy() {
        SparePool pool = with(47, 43, 47, 1, 17, 30, 112, 147, 247);
        pool.lend(2, 2, 2);
        pool.set(1, 90);
        pool.lend(4, 3, 9);
        pool.save(0);
        pool.take(4, 5, 1);
        pool.advance(2, 8, 3);
        pool.buy(6, 0);
        pool.days(5);
        pool.take(4, 5, 0);
        pool.settle(3, 1, 0, 0);
        write(pool, "Un047d9");
        return pool;
    }
}
