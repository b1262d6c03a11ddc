import java.util.ArrayList;
import java.util.List;

/** The three plans against the Model's: all plans of short texts, and plans of long ones. */
public final class PlanOracleTest {
    private static final Check CHECK = new Check("PlanOracleTest");

    public static void main(String[] args) {
        shortTexts();
        mixedTexts();
        CHECK.end();
    }

    /** Every text of two signs with up to 9 bytes, under settings that change with the text. */
    private static void shortTexts() {
        for (int size = 0; size <= 9; size++) {
            for (int form = 0; form < 1 << size; form++) {
                List<Integer> bytes = new ArrayList<>();
                for (int place = 0; place < size; place++) {
                    bytes.add(form >> place & 1);
                }
                for (int variant = 0; variant < 3; variant++) {
                    compareShort(bytes, new Numbers(form * 31L + size + 1000L * variant));
                }
            }
        }
    }

    private static void compareShort(List<Integer> bytes, Numbers numbers) {
        Model m = new Model();
        m.text.addAll(bytes);
        m.least = numbers.between(2, 3);
        m.greatest = numbers.between(m.least, 9);
        m.window = numbers.between(1, 9);
        m.price = numbers.below(2) * numbers.below(31);
        m.plan = m.bestOfAll();
        MatchCoder x = coderLike(m);
        String what = bytes + ", lengths " + m.least + " to " + m.greatest + ", window " + m.window + ", price " + m.price;
        CHECK.same("best() of " + what, x.best(), m.costOf(m.plan));
        CHECK.same("the best plan of " + what, tokensOf(x), m.plan);
    }

    private static void mixedTexts() {
        for (int seed = 0; seed < 1500; seed++) {
            Numbers numbers = new Numbers(seed);
            Model m = new Model();
            fillModel(m, numbers);
            m.least = numbers.between(2, 6);
            m.greatest = numbers.below(3) == 0 ? 64 : numbers.between(m.least, 20);
            m.window = numbers.below(3) == 0 ? 64 : numbers.between(1, 64);
            m.price = numbers.below(3) == 0 ? 0 : numbers.between(0, 30);
            for (Coders.Way way : Coders.Way.values()) {
                compareMixed(way, m, "text " + seed);
            }
        }
    }

    /** Also what is written is read as the text again. */
    private static void compareMixed(Coders.Way way, Model m, String what) {
        MatchCoder x = coderLike(m);
        int cost = way == Coders.Way.BEST ? m.best() : m.quick(way == Coders.Way.LAZY);
        CHECK.same(way + " of " + what, way.choose(x), cost);
        CHECK.same("the plan by " + way + " of " + what, tokensOf(x), m.plan);
        CHECK.same("write() of " + what, x.write(), cost - m.price * m.plan.size());
        CHECK.same("read() of " + what, x.read(), 0);
        CHECK.same("differences() of " + what, x.differences(), 0);
    }

    /** Single bytes between copies from further ahead, so that AGAIN is often worth its bits. */
    private static void fillModel(Model m, Numbers numbers) {
        int size = numbers.below(3) == 0 ? 64 : numbers.between(1, 64);
        int alphabet = numbers.between(1, 6);
        int distance = 1;
        while (m.text.size() < size) {
            int made = m.text.size();
            if (made == 0 || numbers.below(3) == 0) {
                m.text.add(numbers.below(alphabet));
                continue;
            }
            distance = numbers.below(2) == 0 && distance <= made ? distance : numbers.between(1, made);
            for (int left = numbers.between(1, 9); left > 0 && m.text.size() < size; left--) {
                m.text.add(m.text.get(m.text.size() - distance));
            }
        }
    }

    private static MatchCoder coderLike(Model m) {
        MatchCoder x = new MatchCoder();
        m.text.forEach(b -> x.feed(b, 1));
        x.setLengths(m.least, m.greatest);
        x.setWindow(m.window);
        x.setPrice(m.price);
        return x;
    }

    private static List<Model.Token> tokensOf(MatchCoder x) {
        List<Model.Token> all = new ArrayList<>();
        for (int i = 0; i < x.tokenCount(); i++) {
            all.add(new Model.Token(x.kind(i), x.length(i), x.distance(i)));
        }
        return all;
    }
}
