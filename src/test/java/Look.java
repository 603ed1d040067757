/** All that can be asked of a pool, as one text; some 440 calls, so ask a fresh object at its end. */
final class Look {
    private Look() {
    }

    static String at(SparePool pool) {
        StringBuilder seen = new StringBuilder();
        for (int what = 0; what <= 9; what++) {
            seen.append(pool.about(what)).append(' ');
        }
        int units = pool.about(1);
        for (int u = 0; u < units; u++) {
            seen.append("| u").append(u).append(' ');
            for (int what = 0; what <= 5; what++) {
                seen.append(pool.unit(u, what)).append(' ');
            }
        }
        for (int h = 0; h <= 4; h++) {
            seen.append("| h").append(h).append(' ');
            for (int what = 0; what <= 6; what++) {
                seen.append(pool.holder(h, what)).append(' ');
            }
            int cores = pool.holder(h, 4);
            for (int k = 0; k < cores; k++) {
                seen.append("core ").append(pool.core(h, k, 0)).append(' ').append(pool.core(h, k, 1)).append(' ');
            }
            addDebts(pool, h, seen);
        }
        for (int what = 0; what <= 2; what++) {
            seen.append("| ").append(pool.setting(what)).append(' ');
        }
        return seen.toString();
    }

    private static void addDebts(SparePool pool, int h, StringBuilder seen) {
        if (pool.holder(h, 5) == 0) {
            return;
        }
        for (int other = 0; other <= 4; other++) {
            for (int sort = 0; sort < 9; sort++) {
                int n = pool.owed(h, other, sort / 3, sort % 3);
                if (n != 0) {
                    seen.append("owes ").append(other).append(' ').append(sort).append(' ').append(n).append(' ');
                }
            }
        }
    }
}
