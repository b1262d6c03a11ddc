import java.io.IOException;
import java.nio.file.Files;
import java.nio.file.Path;
import java.util.List;
import java.util.regex.Matcher;
import java.util.regex.Pattern;

/** What a look at the source can tell of LANGUAGE.md. It is run from the project's own folder. */
public final class LanguageTest {
    private static final Check CHECK = new Check("LanguageTest");
    private static final List<String> NOT_ALLOWED = List.of("\\bpackage\\b", "\\bimport\\b", "->", "::", "\\btry\\b",
            "\\bcatch\\b", "\\bfinally\\b", "\\bsynchronized\\b", "\\bassert\\b", "\\bSystem\\.(?!arraycopy)",
            "\\w+Exact\\b", "\\bprotected\\b", "\\bhashCode\\b", "\\btoString\\b", "\\bequals\\b", "\\bNaN\\b",
            "\\bInteger\\.MAX_VALUE\\b", "\\bMath\\.(?!min\\b|max\\b)", "\\bwhile \\(true\\)", "\\bfor \\(;");

    public static void main(String[] args) throws IOException {
        String source = withoutCommentsAndTexts(Files.readString(Path.of("src/main/java/MatchCoder.java")));
        for (String form : NOT_ALLOWED) {
            CHECK.same("whether the source has " + form, Pattern.compile(form).matcher(source).find(), false);
        }
        throwsAreListed(source);
        objectsAreMadeOnce(source);
        methodsAreShort(source);
        CHECK.end();
    }

    private static String withoutCommentsAndTexts(String source) {
        return source.replaceAll("(?s)/\\*.*?\\*/", "").replaceAll("//[^\n]*", "").replaceAll("\"[^\"\n]*\"", "\"\"");
    }

    private static void throwsAreListed(String source) {
        Matcher m = Pattern.compile("\\bthrow\\b[^;]*;").matcher(source);
        String fine = "throw new (IllegalState|IllegalArgument|IndexOutOfBounds)Exception\\(\"\"\\);";
        while (m.find()) {
            CHECK.same(m.group() + " is listed", m.group().matches(fine), true);
        }
    }

    /** The room of a run is small: rows and objects are made with the coder, by no later call. */
    private static void objectsAreMadeOnce(String source) {
        for (String line : source.split("\n")) {
            if (line.contains("new ")) {
                boolean fine = line.matches(".*throw new .*")
                        || line.matches(" *(private )?final int\\[\\] \\w+ = new int\\[[A-Z_* ]+\\];")
                        || line.matches(" {8}\\w+ = new [A-Z]\\w*\\([a-z, ]*\\);");
                CHECK.same("whether this makes an object once: " + line.trim(), fine, true);
            }
        }
    }

    private static void methodsAreShort(String source) {
        Matcher m = Pattern.compile("(?m)^( {4}| {8})(\\w[^;={}]*\\)[^;={}]*) \\{\n(?s:(.*?))^\\1\\}").matcher(source);
        int methods = 0;
        while (m.find()) {
            methods++;
            CHECK.same("the lines of " + m.group(2) + " are few", m.group(3).lines().count() <= 40, true);
        }
        CHECK.same("methods were found", methods > 36, true);
    }
}
