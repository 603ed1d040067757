import java.lang.reflect.InvocationTargetException;
import java.lang.reflect.Method;
import java.util.Random;

/** Calls by name, for a SparePool or for the model of one, and random ones. */
final class Calls {
    record Call(String name, long... args) {
        String text() {
            StringBuilder text = new StringBuilder(name).append('(');
            for (int i = 0; i < args.length; i++) {
                text.append(i == 0 ? "" : ", ").append(args[i]);
            }
            return text.append(')').toString();
        }
    }

    private Calls() {
    }

    /** The answer, or the name of what is thrown. */
    static String answer(Object pool, Call call) {
        for (Method method : pool.getClass().getDeclaredMethods()) {
            if (method.getName().equals(call.name()) && method.getParameterCount() == call.args().length) {
                try {
                    return method.invoke(pool, fitted(method, call.args())).toString();
                } catch (InvocationTargetException e) {
                    return e.getCause().getClass().getSimpleName();
                } catch (IllegalAccessException e) {
                    return "no access to " + call.name();
                }
            }
        }
        return "no method " + call.name();
    }

    private static Object[] fitted(Method method, long[] args) {
        Object[] fitted = new Object[args.length];
        for (int i = 0; i < args.length; i++) {
            fitted[i] = method.getParameterTypes()[i] == long.class ? (Object) args[i] : (Object) (int) args[i];
        }
        return fitted;
    }

    /** Mostly 0 to end - 1, seldom outside. */
    private static long to(Random random, int end) {
        return random.nextInt(40) == 0 ? outside(random, end) : random.nextInt(Math.max(1, end));
    }

    /** Mostly just outside, else as far as an int goes, or anywhere. */
    private static long outside(Random random, int end) {
        switch (random.nextInt(8)) {
            case 0: return Integer.MIN_VALUE;
            case 1: return Integer.MAX_VALUE;
            case 2: return random.nextInt();
            default: return random.nextBoolean() ? -1 : end;
        }
    }

    static Call action(Random random, int units) {
        long u = to(random, units);
        long v = to(random, units);
        long h = to(random, 5);
        long part = to(random, 3);
        switch (random.nextInt(22)) {
            case 0: return new Call("come", to(random, 3), h, to(random, 8));
            case 1: return new Call("come", to(random, 2), to(random, 5), 7);
            case 2: return new Call("come", to(random, 2), 4, 7);
            case 3: case 4: return new Call("lend", u, h, 1 + to(random, 30));
            case 5: return new Call("lend", u, to(random, 2), 1 + to(random, 5));
            case 6: return new Call("bring", u);
            case 7: case 8: return new Call("exchange", u, v);
            case 9: case 10: return new Call("advance", to(random, 5), v, 1 + to(random, 30));
            case 11: return new Call("deliver", u);
            case 12: case 13: case 14: case 15: return new Call("take", u, v, part);
            case 16: return new Call("settle", h, to(random, 5), to(random, 3), part);
            case 17: return new Call("buy", u, part);
            case 18: case 19: return new Call("days", 1 + to(random, random.nextBoolean() ? 4 : 99));
            case 20: return new Call("set", 0, to(random, 100));
            default: return new Call("set", 1 + to(random, 2), to(random, 1000));
        }
    }

    static Call question(Random random, int units) {
        long h = to(random, 5);
        switch (random.nextInt(15)) {
            case 0: return new Call("about", to(random, 10));
            case 1: return new Call("unit", to(random, units), to(random, 6));
            case 2: return new Call("holder", h, to(random, 7));
            case 3: return new Call("owed", h, to(random, 5), to(random, 3), to(random, 3));
            case 4: return new Call("core", h, to(random, 6), to(random, 2));
            case 5: return new Call("setting", to(random, 3));
            case 6: return new Call("complete", h, to(random, 3));
            case 7: return new Call("takings", h, to(random, 3));
            case 8: return new Call("bill", h, to(random, 100));
            case 9: return new Call("firstDue");
            case 10: return new Call("cheapest", h, to(random, 3));
            case 11: return new Call("inDebt");
            case 12: return new Call("simulate", random.nextLong(), 1 + to(random, 99));
            default: return script(random, units);
        }
    }

    static Call script(Random random, int units) {
        int n = (int) (1 + to(random, 3));
        long script = 0;
        for (int i = 0; i < Math.min(n, 4); i++) {
            script = script * 1_000_000 + command(random, units);
        }
        return new Call("runScript", n, random.nextInt(30) == 0 ? random.nextLong() : script);
    }

    private static long command(Random random, int units) {
        long u = Math.max(0, to(random, units));
        long v = Math.max(0, to(random, units));
        long h = random.nextInt(6);
        long zero = random.nextInt(30) == 0 ? 1 : 0;
        switch (random.nextInt(11)) {
            case 0: return 100_000 + u * 1_000 + h * 100 + random.nextInt(32);
            case 1: return 200_000 + zero * 100 * (1 + random.nextInt(999)) + u;
            case 2: return 300_000 + u * 1_000 + v * 10 + zero;
            case 3: return 400_000 + u * 1_000 + v * 10 + random.nextInt(4);
            case 4: return 500_000 + zero * 1_000 + random.nextInt(100);
            case 5: return 600_000 + u * 1_000 + random.nextInt(4) * 100 + zero;
            case 6: return 700_000 + u * 1_000 + h * 100 + zero * 10;
            case 7: return 800_000 + h * 10_000 + random.nextInt(1_000) * 10 + zero;
            case 8: return 900_000 + zero * 10_000 + random.nextInt(8);
            case 9: return 100_000 + u * 1_000 + random.nextInt(2) * 100 + 1 + random.nextInt(9);
            default: return random.nextInt(1_000_000);
        }
    }

    /** A command of a text, seldom one that is none. */
    static String textCommand(Random random) {
        String text = "n" + random.nextInt(3) + random.nextInt(5) + random.nextInt(8);
        switch (random.nextInt(8)) {
            case 0: text = "l" + two(random, 6) + random.nextInt(5) + two(random, 31); break;
            case 1: text = "r" + two(random, 6); break;
            case 2: text = "x" + two(random, 6) + two(random, 6); break;
            case 3: text = "t" + two(random, 6) + two(random, 6) + random.nextInt(3); break;
            case 4: text = "d" + (1 + random.nextInt(9)); break;
            default: break;
        }
        if (random.nextInt(60) == 0) {
            int at = random.nextInt(text.length());
            text = text.substring(0, at) + (char) (40 + random.nextInt(90)) + text.substring(at + 1);
        }
        return text;
    }

    private static String two(Random random, int end) {
        int number = random.nextInt(60) == 0 ? random.nextInt(100) : random.nextInt(end);
        return (number < 10 ? "0" : "") + number;
    }
}
