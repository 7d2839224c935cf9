import java.lang.reflect.InvocationTargetException;
import java.lang.reflect.Method;
import java.lang.reflect.Modifier;
import java.net.URISyntaxException;
import java.nio.file.Files;
import java.nio.file.Path;
import java.util.TreeSet;
import java.util.regex.Matcher;
import java.util.regex.Pattern;

/** Each call in README.md's examples answers, or throws, what stands behind it; each call of the face is shown. */
public final class ReadmeTest {
    private static final Pattern EXAMPLE = Pattern.compile("```java\n(.*?)```", Pattern.DOTALL);
    private static final Pattern CALL = Pattern.compile("(\\S.*);\\s+// (throws )?(-?\\w+).*");

    public static void main(String[] args) throws Exception {
        Matcher example = EXAMPLE.matcher(Files.readString(Path.of("README.md")));
        StringBuilder all = new StringBuilder();
        for (int number = 1; example.find(); number++) {
            all.append(example.group(1));
            run("Example" + number, example.group(1));
        }
        showsEachCall(all.toString());
        Check.end();
    }

    private static void run(String name, String example) throws Exception {
        StringBuilder source = new StringBuilder("final class " + name + " { static void run() { ");
        example.lines().forEach(line -> source.append(checked(line)).append('\n'));
        Compiled compiled = new Compiled(name, source.append("} }").toString(), placeOfTests());
        boolean made = compiled.task().call();
        Check.due("errors in " + name, compiled.errors(), "");
        if (made) {
            call(Class.forName(name).getDeclaredMethod("run"));
        }
    }

    /** There the example finds Check, which is no public class. */
    private static Path placeOfTests() throws URISyntaxException {
        return Path.of(ReadmeTest.class.getProtectionDomain().getCodeSource().getLocation().toURI());
    }

    private static void call(Method run) throws IllegalAccessException {
        try {
            run.invoke(null);
        } catch (InvocationTargetException e) {
            Check.due(run.toString(), String.valueOf(e.getCause()), "no exception");
        }
    }

    /** A line whose call tells its answer becomes a check. */
    private static String checked(String line) {
        Matcher told = CALL.matcher(line);
        if (!told.matches()) {
            return line;
        }
        String call = told.group(1);
        String name = "\"" + call + "\", ";
        if (told.group(2) == null) {
            return "Check.due(" + name + call + ", " + told.group(3) + ");";
        }
        return "Check.due(" + name + "Check.nameOfThrown(() -> " + call + "), \"java.lang." + told.group(3) + "\");";
    }

    private static void showsEachCall(String examples) {
        TreeSet<String> missing = new TreeSet<>();
        for (Method method : RuleLists.class.getDeclaredMethods()) {
            if (Modifier.isPublic(method.getModifiers()) && !examples.contains("." + method.getName() + "(")) {
                missing.add(method.getName());
            }
        }
        Check.due("calls that README.md does not show", missing.toString(), "[]");
    }
}
