import java.io.File;
import java.io.IOException;
import java.nio.file.Files;
import java.nio.file.Path;
import java.util.Arrays;
import java.util.TreeSet;
import java.util.regex.Matcher;
import java.util.regex.Pattern;

/** README.md is true: its examples answer what stands behind them, and its tables name the tests that there are. */
public final class ReadmeTest {
    private static final Pattern NEW = Pattern.compile("SparePool pool = new SparePool\\(\\);");
    private static final Pattern TEXT = Pattern.compile(
            "for \\(char c : \"(.*)\"\\.toCharArray\\(\\)\\) pool\\.append\\(c\\);");
    private static final Pattern CALL = Pattern.compile("pool\\.(\\w+)\\((.*?)\\); +// ([-\\w]+)(:.*)?");

    private static SparePool pool;

    public static void main(String[] args) throws IOException {
        String readme = Files.readString(Path.of("README.md"));
        TreeSet<String> called = new TreeSet<>();
        Matcher block = Pattern.compile("```java\n(.*?)```", Pattern.DOTALL).matcher(readme);
        while (block.find()) {
            for (String line : block.group(1).split("\n")) {
                exampleLine(line, called);
            }
        }
        Check.due("calls in the examples", called.size() >= 20 ? 1 : 0, 1);
        theTestsThatThereAre(readme);
        thePlacesThatThereAre(readme);
        Check.finish("ReadmeTest");
    }

    private static void exampleLine(String line, TreeSet<String> called) {
        Matcher text = TEXT.matcher(line);
        Matcher call = CALL.matcher(line);
        if (NEW.matcher(line).matches()) {
            pool = new SparePool();
        } else if (text.matches()) {
            Pools.write(pool, text.group(1));
        } else if (call.matches()) {
            called.add(call.group(1));
            Check.same(line, Calls.answer(pool, new Calls.Call(call.group(1), numbers(call.group(2)))), call.group(3));
        } else {
            Check.same("a line that is no example", line, "");
        }
    }

    private static long[] numbers(String written) {
        if (written.isEmpty()) {
            return new long[0];
        }
        return Arrays.stream(written.split(", ")).mapToLong(s -> Long.parseLong(s.replace("L", ""))).toArray();
    }

    private static void theTestsThatThereAre(String readme) {
        TreeSet<String> files = new TreeSet<>();
        for (String file : new File("src/test/java").list()) {
            files.add(file.replace(".java", ""));
        }
        TreeSet<String> named = new TreeSet<>();
        Matcher name = Pattern.compile("`([A-Z][A-Za-z]+)`").matcher(readme.substring(readme.indexOf("## Tests")));
        while (name.find()) {
            named.add(name.group(1));
        }
        Check.same("the tests and helpers that are named", named.toString(), files.toString());
    }

    private static void thePlacesThatThereAre(String readme) {
        String[] places = {".ci/run", "src/main/java/SparePool.java", "src/test/java", "../shared/tests",
            "../shared/DOC.md", "../shared/LANGUAGE.md"};
        for (String place : places) {
            Check.due(place + " is named", readme.contains(place) ? 1 : 0, 1);
            Check.due(place + " is there", new File(place).exists() ? 1 : 0, 1);
        }
        Check.due(".ci/run can be run", new File(".ci/run").canExecute() ? 1 : 0, 1);
    }
}
