import java.io.IOException;
import java.nio.file.Files;
import java.nio.file.Path;
import java.util.List;
import java.util.Map;
import java.util.Set;
import java.util.TreeMap;
import java.util.TreeSet;
import java.util.regex.Matcher;
import java.util.regex.Pattern;

/** What a look at the source can tell of LANGUAGE.md. It is run from the project's own folder. */
public final class LanguageTest {
    private static final Check CHECK = new Check("LanguageTest");
    private static final String EXCEPTION = "(IllegalState|IllegalArgument|IndexOutOfBounds|Arithmetic"
            + "|UnsupportedOperation|NoSuchElement|Runtime)Exception";
    /** A method's head and body, by the two depths at which methods stand. */
    private static final Pattern METHOD = Pattern.compile(
            "(?m)^( {4}| {8})(\\w[^;={}]*\\)[^;={}]*) \\{\n(?s:(.*?))^\\1\\}");
    /** A name with its parameters; not that of a new object, whose methods count by themselves. */
    private static final Pattern NAME = Pattern.compile("(?<!new )\\b([a-z]\\w*)\\(");
    private static final int DEEPEST = 8;
    private static final List<String> NOT_ALLOWED = List.of("\\bpackage\\b", "::", "\\btry \\(", "\\bfinally\\b",
            "\\bsynchronized\\b", "\\bassert\\b", "\\bprotected\\b", "\\bhashCode\\b", "\\bNaN\\b", "\\w+Exact\\b",
            "\\bimport (?!java\\.util\\.(ArrayList|List|Arrays|Iterator|NoSuchElementException);)",
            "\\bSystem\\.(?!arraycopy\\b)", "\\bMath\\.(?!min\\b|max\\b|abs\\b|floorDiv\\b|floorMod\\b)",
            "\\bwhile \\(true\\)", "\\bfor \\(;;", "\\bstatic \\{", "\\bcatch \\((?!" + EXCEPTION + "\\b)");

    public static void main(String[] args) throws IOException {
        String source = withoutCommentsAndTexts(Files.readString(Path.of("src/main/java/MatchCoder.java")));
        for (String form : NOT_ALLOWED) {
            CHECK.same("whether the source has " + form, Pattern.compile(form).matcher(source).find(), false);
        }
        noLambda(source);
        throwsAreListed(source);
        methodsAreShort(source);
        callsAreShallow(source);
        CHECK.end();
    }

    private static String withoutCommentsAndTexts(String source) {
        return source.replaceAll("(?s)/\\*.*?\\*/", "").replaceAll("//[^\n]*", "").replaceAll("\"[^\"\n]*\"", "\"\"");
    }

    private static void noLambda(String source) {
        for (String line : source.split("\n")) {
            boolean lambda = line.contains("->") && !line.matches("\\s*(case\\b.*|default) ->.*");
            CHECK.same("whether there is a lambda in " + line.trim(), lambda, false);
        }
    }

    private static void throwsAreListed(String source) {
        Matcher m = Pattern.compile("\\bthrow\\b[^;]*;").matcher(source);
        while (m.find()) {
            CHECK.same(m.group() + " is listed", m.group().matches("throw new " + EXCEPTION + "\\((\"\")?\\);"), true);
        }
    }

    private static void methodsAreShort(String source) {
        Matcher m = METHOD.matcher(source);
        int methods = 0;
        while (m.find()) {
            methods++;
            CHECK.same("the lines of " + m.group(2) + " are few", m.group(3).lines().count() <= 60, true);
        }
        CHECK.same("methods were found", methods > 36, true);
    }

    /** Methods of the same name count as one that makes the calls of all, so none looks shallower than it is. */
    private static void callsAreShallow(String source) {
        Map<String, Set<String>> calls = new TreeMap<>();
        Matcher m = METHOD.matcher(source);
        while (m.find()) {
            Matcher head = NAME.matcher(m.group(2));
            if (head.find()) {
                Matcher name = NAME.matcher(m.group(3));
                Set<String> called = calls.computeIfAbsent(head.group(1), key -> new TreeSet<>());
                while (name.find()) {
                    called.add(name.group(1));
                }
            }
        }
        CHECK.same("methods that were found by name", calls.size() > 36, true);
        for (String name : calls.keySet()) {
            int depth = depth(name, calls, new TreeSet<>());
            CHECK.same("that " + depth + " calls of " + name + " stand open at once is fine", depth <= DEEPEST, true);
        }
    }

    /** How many calls stand open at once; a method that is open already would be recursion, which does not count. */
    private static int depth(String name, Map<String, Set<String>> calls, Set<String> open) {
        int deepest = 0;
        open.add(name);
        for (String called : calls.getOrDefault(name, Set.of())) {
            deepest = open.contains(called) ? deepest : Math.max(deepest, depth(called, calls, open));
        }
        open.remove(name);
        return 1 + deepest;
    }
}
