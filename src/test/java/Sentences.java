import java.util.ArrayList;
import java.util.List;
import java.util.function.Consumer;

/** Sentences of the document, or parts of them, each with the test of its own. */
final class Sentences {
    record Sentence(String heading, String words, Consumer<Check> test) {
        Check look(String name) {
            Check check = new Check(name + ", " + heading + ", \"" + words + "\"");
            try {
                test.accept(check);
            } catch (RuntimeException e) {
                check.same("a call that is right", e.toString(), "no exception");
            }
            check.same("the number of answers looked at is 0", check.looked() == 0, false);
            return check;
        }
    }

    private final String name;
    private final List<Sentence> all = new ArrayList<>();
    private String heading = "";

    Sentences(String name) {
        this.name = name;
    }

    /** The sentences from here on stand under this heading of the document. */
    Sentences under(String next) {
        heading = next;
        return this;
    }

    Sentences holds(String words, Consumer<Check> test) {
        all.add(new Sentence(heading, words, test));
        return this;
    }

    List<Sentence> list() {
        return all;
    }

    /** Ends the test with the exit code 1 if one of the sentences does not hold. */
    void run() {
        int looked = 0;
        int broken = 0;
        for (Sentence sentence : all) {
            Check check = sentence.look(name);
            looked += check.looked();
            broken += check.good() ? 0 : 1;
        }
        System.out.println(name + ": " + all.size() + " sentences, " + looked + " answers looked at, "
                + broken + " sentences broken");
        if (broken > 0 || all.isEmpty()) {
            System.exit(1);
        }
    }
}
