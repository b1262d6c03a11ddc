import java.io.IOException;
import java.nio.file.Files;
import java.nio.file.Path;
import java.util.ArrayList;
import java.util.Arrays;
import java.util.LinkedHashMap;
import java.util.List;
import java.util.Map;

/**
 * Every word of the document's description and promises belongs to a sentence that has a test, or
 * stands in NO_BOUNDARY. It is run from the project's own folder.
 */
public final class DocumentTest {
    private static final Check CHECK = new Check("DocumentTest");

    /** What FaceTest looks at, and what is left free. */
    private static final List<String> NOT_LOOKED_AT = List.of("The public face", "Not promised");

    /** What only names or introduces. */
    private static final List<String> NO_BOUNDARY = List.of(
            "A coder for short texts that replaces parts by references to earlier ones. It finds the cheapest way to split"
                    + " a text into literals and matches, when the distance of the latest match can be used again for less,"
                    + " compares it with two quick ways, writes the code as bits, and reads bits again, also damaged ones.",
            "The constructor and the methods follow, a promise each: the signature, then what it does.",
            "- `many`: how many", "- `many`: how often", "- `value`: the byte", "- `value`: the new byte",
            "- `place`: the place", "- `place`: a place of the text", "- `place`: a place of what was read",
            "- `place`: a place", "- `distance`: a distance", "- `n`: a number", "- `index`: the number of a bit",
            "- `window`: the window", "- `least`: the least length", "- `greatest`: the greatest length",
            "- `price`: the price");

    public static void main(String[] args) throws IOException {
        Map<String, String> sections = sections(Files.readAllLines(Path.of("../shared/DOC.md")));
        Map<String, List<String>> tested = new LinkedHashMap<>();
        for (Sentences sentences : all()) {
            for (Sentences.Sentence sentence : sentences.list()) {
                String section = sections.getOrDefault(sentence.heading(), "");
                CHECK.same("whether \"" + sentence.words() + "\" stands under " + sentence.heading(),
                        section.contains(sentence.words()), true);
                tested.computeIfAbsent(sentence.heading(), heading -> new ArrayList<>()).add(sentence.words());
            }
        }
        sections.forEach((heading, section) -> CHECK.same("what has no test under " + heading,
                untested(section, tested.getOrDefault(heading, List.of())), ""));
        CHECK.same("the number of promises", sections.keySet().stream().filter(h -> h.startsWith("Promise ")).count(), 37L);
        CHECK.end();
    }

    static List<Sentences> all() {
        return List.of(EveryMethodTest.sentences(), TextTest.sentences(), SettingsTest.sentences(), TokensTest.sentences(),
                MatchesTest.sentences(), PlansTest.sentences(), BitsTest.sentences(), ReadingTest.sentences(),
                DigestTest.sentences());
    }

    /** The words under each heading, without signatures and the names of groups of methods. */
    private static Map<String, String> sections(List<String> lines) {
        Map<String, String> sections = new LinkedHashMap<>();
        String heading = "";
        for (String line : lines) {
            if (line.startsWith("#")) {
                heading = line.replaceFirst("#+ ", "");
            } else if (!heading.isEmpty() && !NOT_LOOKED_AT.contains(heading) && !line.startsWith("----")
                    && !line.matches("`.*\\(.*\\).*`")) {
                sections.merge(heading, line.trim(), (before, next) -> (before + " " + next).trim());
            }
        }
        return sections;
    }

    private static String untested(String section, List<String> words) {
        char[] left = section.toCharArray();
        for (String each : words) {
            strike(left, section, each);
        }
        for (String each : NO_BOUNDARY) {
            strike(left, section, each);
        }
        return new String(left).trim();
    }

    private static void strike(char[] left, String section, String words) {
        for (int at = section.indexOf(words); at >= 0; at = section.indexOf(words, at + 1)) {
            Arrays.fill(left, at, at + words.length(), ' ');
        }
    }
}
