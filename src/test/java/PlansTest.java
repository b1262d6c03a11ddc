import java.util.concurrent.Callable;

/** Promises 15 to 25: best, greedy, lazy, and what is asked of a plan. */
public final class PlansTest {
    private static final Check CHECK = new Check("PlansTest");
    private static final Class<IllegalStateException> STATE = IllegalStateException.class;
    private static final Class<IndexOutOfBoundsException> INDEX = IndexOutOfBoundsException.class;

    public static void main(String[] args) {
        emptyText();
        withoutPlan();
        wrongTokens();
        againIsUsed();
        tiesOfBest();
        greedyTakesTheLongest();
        lazyWaits();
        literalsAlone();
        questions();
        CHECK.end();
    }

    private static MatchCoder coder(String text) {
        MatchCoder x = new MatchCoder();
        for (int place = 0; place < text.length(); place++) {
            x.feed(text.charAt(place), 1);
        }
        return x;
    }

    /** Tokens as L, M of length and distance, A of length and distance. */
    private static String tokens(MatchCoder x) {
        StringBuilder all = new StringBuilder();
        for (int token = 0; token < x.tokenCount(); token++) {
            all.append(token == 0 ? "" : " ").append("LMA".charAt(x.kind(token)));
            if (x.kind(token) != 0) {
                all.append(x.length(token)).append(',').append(x.distance(token));
            }
        }
        return all.toString();
    }

    private static void emptyText() {
        MatchCoder x = new MatchCoder();
        CHECK.same("best() of nothing", x.best(), 0);
        CHECK.same("hasPlan() behind it", x.hasPlan(), true);
        CHECK.same("tokenCount() behind it", x.tokenCount(), 0);
        CHECK.same("ratio() behind it", x.ratio(), 0.0);
        CHECK.same("made(0) behind it", x.made(0), 0);
        CHECK.same("write() behind it", x.write(), 0);
        CHECK.refuses("kind(0) behind it", x, INDEX, () -> x.kind(0));
        CHECK.same("greedy() of nothing", x.greedy(), 0);
        CHECK.same("lazy() of nothing", x.lazy(), 0);
    }

    private static void withoutPlan() {
        MatchCoder x = coder("aaaa");
        CHECK.same("hasPlan()", x.hasPlan(), false);
        CHECK.refuses("tokenCount()", x, STATE, x::tokenCount);
        for (int index : new int[] {0, -1, 99}) {
            CHECK.refuses("kind(" + index + ")", x, STATE, () -> x.kind(index));
            CHECK.refuses("length(" + index + ")", x, STATE, () -> x.length(index));
            CHECK.refuses("distance(" + index + ")", x, STATE, () -> x.distance(index));
            CHECK.refuses("start(" + index + ")", x, STATE, () -> x.start(index));
            CHECK.refuses("made(" + index + ")", x, STATE, () -> x.made(index));
        }
        CHECK.refuses("ratio()", x, STATE, x::ratio);
        CHECK.refuses("write()", x, STATE, x::write);
        Callable<?> ratioOfNothing = new MatchCoder()::ratio;
        CHECK.fails("ratio() of nothing without a plan", STATE, ratioOfNothing);
    }

    private static void wrongTokens() {
        MatchCoder x = coder("aaaa");
        x.best();
        CHECK.same("tokenCount()", x.tokenCount(), 2);
        for (int index : new int[] {-1, 2, 64, Integer.MIN_VALUE, Integer.MAX_VALUE}) {
            CHECK.refuses("kind(" + index + ")", x, INDEX, () -> x.kind(index));
            CHECK.refuses("length(" + index + ")", x, INDEX, () -> x.length(index));
            CHECK.refuses("distance(" + index + ")", x, INDEX, () -> x.distance(index));
            CHECK.refuses("start(" + index + ")", x, INDEX, () -> x.start(index));
        }
        for (int kind : new int[] {-1, 3, Integer.MIN_VALUE, Integer.MAX_VALUE}) {
            CHECK.refuses("made(" + kind + ")", x, INDEX, () -> x.made(kind));
        }
    }

    /** A match with one byte changed: its distance is used again behind the change. */
    private static void againIsUsed() {
        MatchCoder x = coder("abcdefghabcXefgh");
        CHECK.same("best()", x.best(), 8 * 9 + 2 + 7 + 3 + 9 + 2 + 5);
        CHECK.same("the best plan", tokens(x), "L L L L L L L L M3,8 L A4,8");
        CHECK.same("greedy()", x.greedy(), 100);
        CHECK.same("the greedy plan", tokens(x), "L L L L L L L L M3,8 L A4,8");
        x.setPrice(10);
        CHECK.same("best() with a price", x.best(), 100 + 11 * 10);
        CHECK.same("ratio() with a price", x.ratio(), 100.0 / 128.0);
    }

    private static void tiesOfBest() {
        CHECK.same("AGAIN may be shorter than the least length", bestOf("aaaaaaaa", 4, 4, 20), "L M4,1 A3,1");
        CHECK.same("the greater length first", bestOf("aaaaaaaa", 3, 3, 23), "L M3,1 A3,1 A1,1");
        CHECK.same("the smaller kind ahead of the greater length", bestOf("aaaaaaaa", 2, 3, 22), "L M2,1 M2,1 A3,1");
        CHECK.same("the smaller distance", bestOf("abcabcQabc", 3, 64, 54), "L L L M3,3 L M3,4");
        CHECK.same("the smaller kind first", bestOf("abQbcRabc", 2, 64, 71), "L L L L L L L M2,4");
        CHECK.same("a MATCH that costs less than AGAIN", bestOf("aaaaa", 2, 2, 17), "L M2,1 M2,1");
    }

    private static String bestOf(String text, int least, int greatest, int cost) {
        MatchCoder x = coder(text);
        x.setLengths(least, greatest);
        CHECK.same("best() of " + text, x.best(), cost);
        return tokens(x);
    }

    private static void greedyTakesTheLongest() {
        CHECK.same("AGAIN where it is as long as the MATCH", tokens(greedyOf("abcabcabcabc", 3, 3)),
                "L L L M3,3 A3,3 A3,3");
        CHECK.same("MATCH where it is longer than the AGAIN", tokens(greedyOf("xyabcdxyQabcd", 2, 64)),
                "L L L L L L M2,6 L M4,7");
        CHECK.same("the smallest distance", tokens(greedyOf("abcabcQabc", 3, 64)), "L L L M3,3 L M3,4");
        CHECK.same("AGAIN of length 1", tokens(greedyOf("abcabcaQ", 3, 3)), "L L L M3,3 A1,3 L");
        MatchCoder x = greedyOf("aaaaa", 2, 2);
        CHECK.same("the greedy plan that costs more than the best one", tokens(x), "L M2,1 A2,1");
        CHECK.same("greedy()", x.greedy(), 18);
        x.setPrice(3);
        CHECK.same("greedy() with a price", x.greedy(), 18 + 3 * 3);
        CHECK.same("lazy() with a price", x.lazy(), 18 + 3 * 3);
    }

    private static MatchCoder greedyOf(String text, int least, int greatest) {
        MatchCoder x = coder(text);
        x.setLengths(least, greatest);
        x.greedy();
        return x;
    }

    private static void lazyWaits() {
        MatchCoder x = coder("abcQbcdefRabcdef");
        x.greedy();
        CHECK.same("the greedy plan", tokens(x), "L L L L L L L L L L M3,10 M3,7");
        x.lazy();
        CHECK.same("the lazy plan", tokens(x), "L L L L L L L L L L L M5,7");
        MatchCoder y = coder("abcQbcdRabcd");
        y.lazy();
        CHECK.same("the lazy plan where waiting gains nothing", tokens(y), "L L L L L L L L M3,8 L");
    }

    /** The longest plan and the most bits that there are. */
    private static void literalsAlone() {
        MatchCoder x = new MatchCoder();
        for (int value = 192; value < 256; value++) {
            x.feed(value, 1);
        }
        x.setPrice(30);
        for (int way = 0; way < 3; way++) {
            int cost = way == 0 ? x.best() : way == 1 ? x.greedy() : x.lazy();
            CHECK.same("the cost of 64 different bytes", cost, 64 * 39);
            CHECK.same("tokenCount() of 64 different bytes", x.tokenCount(), 64);
            CHECK.same("made(0) of 64 different bytes", x.made(0), 64);
            CHECK.same("start(63) of 64 different bytes", x.start(63), 63);
            CHECK.same("ratio() of 64 different bytes", x.ratio(), 1.125);
            CHECK.same("write() of 64 different bytes", x.write(), 576);
            CHECK.same("read() of 64 different bytes", x.read(), 0);
            CHECK.same("differences() of 64 different bytes", x.differences(), 0);
        }
    }

    private static void questions() {
        MatchCoder x = coder("abcdefghabcXefgh");
        x.best();
        CHECK.same("tokenCount()", x.tokenCount(), 11);
        CHECK.same("kind(0)", x.kind(0), 0);
        CHECK.same("length(0)", x.length(0), 1);
        CHECK.same("distance(0)", x.distance(0), 0);
        CHECK.same("start(8)", x.start(8), 8);
        CHECK.same("start(9)", x.start(9), 11);
        CHECK.same("start(10)", x.start(10), 12);
        CHECK.same("kind(10)", x.kind(10), 2);
        CHECK.same("distance(10)", x.distance(10), 8);
        CHECK.same("made(0)", x.made(0), 9);
        CHECK.same("made(1)", x.made(1), 3);
        CHECK.same("made(2)", x.made(2), 4);
        CHECK.same("ratio()", x.ratio(), 100.0 / 128.0);
    }
}
