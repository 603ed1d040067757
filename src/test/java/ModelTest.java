import java.util.Random;

/** All promises at once: random runs of at most 512 calls, each answer compared with the model's. */
public final class ModelTest {
    private static final int RUNS = 1500;
    private static final int CALLS = 500;

    public static void main(String[] args) {
        for (int run = 0; run < RUNS; run++) {
            oneRun(new Random(run), run);
        }
        Check.finish("ModelTest");
    }

    private static void oneRun(Random random, int run) {
        SparePool pool = new SparePool();
        Model model = new Model();
        // Runs differ in how often they act, so that some stay at one state for long.
        int actions = 2 + run % 8;
        for (int calls = 0; calls < CALLS;) {
            String text = random.nextInt(60) == 0 ? text(random) : "";
            for (int i = 0; i < text.length() && calls < CALLS; i++, calls++) {
                compare(pool, model, new Calls.Call("append", text.charAt(i)), run);
            }
            if (calls < CALLS) {
                compare(pool, model, next(random, model.about(1), actions), run);
                calls++;
            }
        }
    }

    private static String text(Random random) {
        StringBuilder text = new StringBuilder("U");
        for (int i = random.nextInt(30); i > 0; i--) {
            text.append(Calls.textCommand(random));
        }
        return text.substring(0, text.length() - random.nextInt(30) / 29);
    }

    private static Calls.Call next(Random random, int units, int actions) {
        switch (random.nextInt(60)) {
            case 0: return new Calls.Call("clearText");
            case 1: return new Calls.Call("errorPosition");
            case 2: return new Calls.Call("load");
            case 3: return new Calls.Call("save", random.nextInt(3));
            case 4: return new Calls.Call("restore", random.nextInt(3) - random.nextInt(2));
            case 5: case 6: return new Calls.Call("undo");
            default: return random.nextInt(10) < actions
                    ? Calls.action(random, units) : Calls.question(random, units);
        }
    }

    private static void compare(SparePool pool, Model model, Calls.Call call, int run) {
        Check.same("run " + run + " " + call.text(), Calls.answer(pool, call), Calls.answer(model, call));
    }
}
