import java.io.IOException;
import java.lang.reflect.InvocationTargetException;
import java.lang.reflect.Method;
import java.nio.file.Files;
import java.nio.file.Path;
import java.util.TreeSet;
import java.util.regex.Matcher;
import java.util.regex.Pattern;

/**
 * README.md's example answers what it says there, call by call, and README.md names every method and
 * every test. It is run from the project's own folder.
 */
public final class ReadmeTest {
    private static final Check CHECK = new Check("ReadmeTest");
    /** A call with its answer behind it, or with the exception that it throws. */
    private static final Pattern CALL = Pattern.compile("coder\\.(\\w+)\\(([^)]*)\\); +// (throws )?([\\w.-]+).*");

    public static void main(String[] args) throws Exception {
        String readme = Files.readString(Path.of("README.md"));
        int from = readme.indexOf("```java\n");
        int to = readme.indexOf("```\n", from + 1);
        CHECK.same("whether there is an example", from >= 0 && to > from, true);
        if (from >= 0 && to > from) {
            example(readme.substring(from, to));
        }
        for (String name : methods()) {
            CHECK.same("whether README.md names " + name, readme.contains("`" + name + "("), true);
        }
        testsAreNamed(readme);
        CHECK.end();
    }

    private static void example(String lines) throws Exception {
        MatchCoder coder = new MatchCoder();
        int calls = 0;
        for (String line : lines.split("\n")) {
            Matcher call = CALL.matcher(line);
            if (call.matches()) {
                calls++;
                String due = call.group(3) == null ? call.group(4) : "throws." + call.group(4);
                CHECK.same(line, answer(coder, call.group(1), call.group(2)), due);
            } else {
                CHECK.same("whether this is a call with its answer: " + line, line.contains("coder."), false);
            }
        }
        CHECK.same("calls were found", calls > 0, true);
    }

    private static String answer(MatchCoder coder, String name, String list) throws Exception {
        String[] written = list.isEmpty() ? new String[0] : list.split(", ");
        for (Method method : MatchCoder.class.getMethods()) {
            if (method.getName().equals(name) && method.getParameterCount() == written.length) {
                return answer(coder, method, written);
            }
        }
        return "no such method";
    }

    private static String answer(MatchCoder coder, Method method, String[] written) throws Exception {
        Object[] numbers = new Object[written.length];
        for (int k = 0; k < written.length; k++) {
            long number = Long.decode(written[k].replace("L", ""));
            numbers[k] = method.getParameterTypes()[k] == long.class ? (Object) number : (Object) (int) number;
        }
        try {
            return method.invoke(coder, numbers).toString();
        } catch (InvocationTargetException e) {
            return "throws." + e.getCause().getClass().getSimpleName();
        }
    }

    private static TreeSet<String> methods() {
        TreeSet<String> names = new TreeSet<>();
        for (Method method : MatchCoder.class.getMethods()) {
            if (method.getDeclaringClass() == MatchCoder.class) {
                names.add(method.getName());
            }
        }
        return names;
    }

    private static void testsAreNamed(String readme) throws IOException {
        try (var files = Files.list(Path.of("src/test/java"))) {
            files.map(file -> file.getFileName().toString().replace(".java", "")).sorted()
                    .forEach(name -> CHECK.same("whether README.md names " + name, readme.contains("`" + name + "`"), true));
        }
    }
}
