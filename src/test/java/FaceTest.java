import java.io.IOException;
import java.lang.reflect.Constructor;
import java.lang.reflect.Field;
import java.lang.reflect.Method;
import java.lang.reflect.Modifier;
import java.nio.file.Files;
import java.nio.file.Path;
import java.util.ArrayList;
import java.util.Arrays;
import java.util.List;
import java.util.TreeSet;
import java.util.regex.Matcher;
import java.util.regex.Pattern;

/** The public face as the document writes it, and no more than that. */
public final class FaceTest {
    public static void main(String[] args) throws IOException {
        theFaceIsTheDocuments();
        nothingElseIsSeen();
        noPrivateMethodBearsAPublicName();
        Check.finish("FaceTest");
    }

    private static void theFaceIsTheDocuments() throws IOException {
        String document = Files.readString(Path.of("../shared/DOC.md"));
        Matcher wanted = Pattern.compile("    public int (\\w+)\\(([^)]*)\\)(?: throws ([^;]*))?;").matcher(document);
        TreeSet<String> want = new TreeSet<>();
        while (wanted.find()) {
            List<String> types = new ArrayList<>();
            for (String parameter : wanted.group(2).split(", ")) {
                types.add(parameter.split(" ")[0]);
            }
            want.add(wanted.group(1) + types + (wanted.group(3) == null ? "" : wanted.group(3)));
        }
        TreeSet<String> got = new TreeSet<>();
        for (Method method : SparePool.class.getDeclaredMethods()) {
            if (Modifier.isPublic(method.getModifiers())) {
                List<String> types = new ArrayList<>();
                Arrays.stream(method.getParameterTypes()).forEach(type -> types.add(type.getName()));
                if (types.isEmpty()) {
                    types.add("");
                }
                List<String> thrown = new ArrayList<>();
                Arrays.stream(method.getExceptionTypes()).forEach(type -> thrown.add(type.getSimpleName()));
                got.add(method.getName() + types + String.join(", ", thrown));
            }
        }
        Check.due("methods of the document", want.size(), 32);
        Check.same("the face", got.toString(), want.toString());
    }

    private static void nothingElseIsSeen() {
        Check.due("final and public", SparePool.class.getModifiers(), Modifier.PUBLIC | Modifier.FINAL);
        for (Method method : SparePool.class.getDeclaredMethods()) {
            boolean shown = Modifier.isPublic(method.getModifiers()) || Modifier.isPrivate(method.getModifiers());
            Check.due(method + " is public or private", shown ? 1 : 0, 1);
        }
        for (Field field : SparePool.class.getDeclaredFields()) {
            boolean isPublic = Modifier.isPublic(field.getModifiers());
            Check.due(field + " is public", isPublic ? 1 : 0, field.getName().equals("NONE") ? 1 : 0);
            Check.due(field + " is private", Modifier.isPrivate(field.getModifiers()) ? 1 : 0, isPublic ? 0 : 1);
        }
        Constructor<?>[] constructors = SparePool.class.getDeclaredConstructors();
        Check.due("constructors", constructors.length, 1);
        Check.due("its parameters", constructors[0].getParameterCount(), 0);
        Check.due("it is public", Modifier.isPublic(constructors[0].getModifiers()) ? 1 : 0, 1);
    }

    private static List<Class<?>> ownClasses() {
        List<Class<?>> classes = new ArrayList<>(Arrays.asList(SparePool.class.getDeclaredClasses()));
        classes.add(SparePool.class);
        return classes;
    }

    private static void noPrivateMethodBearsAPublicName() {
        TreeSet<String> names = new TreeSet<>();
        for (Method method : SparePool.class.getMethods()) {
            names.add(method.getName());
        }
        for (Class<?> type : ownClasses()) {
            for (Method method : type.getDeclaredMethods()) {
                boolean isPublic = Modifier.isPublic(method.getModifiers());
                Check.due(method + " has a name of the face", names.contains(method.getName()) ? 1 : 0, isPublic ? 1 : 0);
            }
        }
    }
}
