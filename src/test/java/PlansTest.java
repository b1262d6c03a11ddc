import java.util.ArrayList;
import java.util.LinkedHashMap;
import java.util.List;
import java.util.Map;
import java.util.function.Function;

/** Promises 15 to 25, and what the description says of plans, sentence by sentence. */
public final class PlansTest {
    /** Its three plans are different, and so are their costs. */
    private static final String THREE = "aaabaaaaa";
    private static final String THREE_BEST = "L M2,1 L M2,3 M3,1";
    private static final String THREE_GREEDY = "L M2,1 L M3,4 M2,1";
    private static final String THREE_LAZY = "L M2,1 L L A4,1";

    public static void main(String[] args) {
        sentences().run();
    }

    static Sentences sentences() {
        Sentences all = new Sentences("PlansTest");
        ofBest(all);
        ofQuickWays(all);
        ofTheKeptPlan(all);
        ofPromises(all);
        return all;
    }

    private static void ofBest(Sentences all) {
        all.under("Description")
                .holds("Plans. A plan is a sequence of tokens that makes the text.", PlansTest::planMakesTheText)
                .holds("The best plan is the one with the least sum of costs;", PlansTest::leastCosts)
                .holds("of several, the one with the fewest tokens;", PlansTest::fewestTokens)
                .holds("of several, at the first token in which they are different: the one with the smaller kind there;",
                        PlansTest::smallerKind)
                .holds("then the one with the greater l;", PlansTest::greaterLength)
                .holds("then the one with the smaller d.", PlansTest::smallerDistance)
                .holds("(No plan with an AGAIN of the distance 0 is meant.)", PlansTest::noAgainOfNothing);
    }

    private static void ofQuickWays(Sentences all) {
        all.under("Description")
                .holds("The greedy plan takes, at each place, the longest way to go on, if there is one:",
                        PlansTest::greedyTakesTheLongest)
                .holds("the length of an AGAIN there is the greatest one that can stand there (0 if none can);",
                        PlansTest::greedyAgain)
                .holds("that of a MATCH is the greatest one for which there is a d, and d is then the smallest one of these"
                        + " (0 if no MATCH can stand there).", PlansTest::greedyMatch)
                .holds("If the AGAIN is not shorter than the MATCH, and not 0, it is taken;", PlansTest::greedyPrefersAgain)
                .holds("otherwise the MATCH, if it is not 0;", PlansTest::greedyThenMatch)
                .holds("otherwise a LITERAL.", PlansTest::greedyThenLiteral)
                .holds("The lazy plan does the same, with one exception:", PlansTest::lazyDoesTheSame)
                .holds("where the greedy rule takes a MATCH of a length l,", PlansTest::lazyKeepsAgain)
                .holds("a LITERAL is taken instead if behind that literal", PlansTest::lazyWaits)
                .holds("(with the present distance as it is)", PlansTest::lazyKeepsTheDistance)
                .holds("the greedy rule would take a MATCH or AGAIN whose length is greater than l.",
                        PlansTest::lazyNeedsGreater);
    }

    private static void ofTheKeptPlan(Sentences all) {
        all.under("Description")
                .holds("The plan that was chosen last, by one of the three ways,", PlansTest::chosenLast)
                .holds("is kept until the next call of feed, fill, cut, set, setWindow, setLengths or setPrice",
                        PlansTest::keptUntil)
                .holds("that throws no exception", PlansTest::keptByRefusals)
                .holds("(also if it changes nothing).", PlansTest::forgottenByNothing)
                .holds("Bits are kept apart from plans, and stay.", PlansTest::bitsStay);
    }

    private static void ofPromises(Sentences all) {
        String noPlan = "Throws `IllegalStateException` if there is no plan";
        String noToken = "Throws `IndexOutOfBoundsException` if there is no such token";
        String token = "- `token`: the number of a token, from 0";
        all.under("Promise 15: best")
                .holds("Chooses the best plan.", c -> chooses(c, Coders.Way.BEST, THREE_BEST))
                .holds("Returns the sum of its costs.", c -> returnsCosts(c, Coders.Way.BEST, 34))
                .under("Promise 16: greedy")
                .holds("Chooses the greedy plan.", c -> chooses(c, Coders.Way.GREEDY, THREE_GREEDY))
                .holds("Returns the sum of its costs.", c -> returnsCosts(c, Coders.Way.GREEDY, 36))
                .under("Promise 17: lazy")
                .holds("Chooses the lazy plan.", c -> chooses(c, Coders.Way.LAZY, THREE_LAZY))
                .holds("Returns the sum of its costs.", c -> returnsCosts(c, Coders.Way.LAZY, 38))
                .under("Promise 18: hasPlan")
                .holds("Returns whether there is a plan.", PlansTest::hasPlan)
                .under("Promise 19: tokenCount")
                .holds("Returns the number of its tokens.", PlansTest::tokenCount)
                .holds(noPlan, c -> needsPlan(c, "tokenCount()", MatchCoder::tokenCount))
                .under("Promise 20: kind")
                .holds(token + " Returns its kind.", c -> tokenAnswers(c, MatchCoder::kind, 0, 1, 0, 2))
                .holds(noPlan, c -> needsPlan(c, "kind(0)", x -> x.kind(0)))
                .holds(noToken, c -> needsToken(c, "kind", MatchCoder::kind))
                .under("Promise 21: length")
                .holds(token + " Returns how many bytes it makes.", c -> tokenAnswers(c, MatchCoder::length, 1, 3, 1, 4))
                .holds(noPlan, c -> needsPlan(c, "length(0)", x -> x.length(0)))
                .holds(noToken, c -> needsToken(c, "length", MatchCoder::length))
                .under("Promise 22: distance")
                .holds(token + " Returns its distance (of an AGAIN the present one);", PlansTest::distances)
                .holds("0 for a LITERAL.", PlansTest::distanceOfLiteral)
                .holds(noPlan, c -> needsPlan(c, "distance(0)", x -> x.distance(0)))
                .holds(noToken, c -> needsToken(c, "distance", MatchCoder::distance))
                .under("Promise 23: start")
                .holds(token + " Returns the place of the first byte that it makes.",
                        c -> tokenAnswers(c, MatchCoder::start, 0, 8, 11, 12))
                .holds(noPlan, c -> needsPlan(c, "start(0)", x -> x.start(0)))
                .holds(noToken, c -> needsToken(c, "start", MatchCoder::start))
                .under("Promise 24: made")
                .holds("- `kind`: a kind, 0 to 2 Returns how many bytes of the text are made by tokens of this kind.",
                        PlansTest::made)
                .holds(noPlan, c -> needsPlan(c, "made(0)", x -> x.made(0)))
                .holds("Throws `IndexOutOfBoundsException` if kind is not 0 to 2", PlansTest::madeOfWrongKinds)
                .under("Promise 25: ratio")
                .holds("Returns the number of bits of the plan divided by 8 times the size of the text;", PlansTest::ratio)
                .holds("0 if the text is empty.", PlansTest::ratioOfNothing)
                .holds(noPlan, c -> needsPlan(c, "ratio()", MatchCoder::ratio));
    }

    private static void plan(Check c, Coders.Way way, String text, int least, int greatest, String due) {
        String what = way + " of " + text + " with the lengths " + least + " to " + greatest;
        c.same(what, Coders.tokensOf(way, Coders.text(text, least, greatest)), due);
    }

    private static void best(Check c, String text, int least, int greatest, int cost, String due) {
        plan(c, Coders.Way.BEST, text, least, greatest, due);
        c.same("best() of " + text, Coders.text(text, least, greatest).best(), cost);
    }

    private static void greedy(Check c, String text, int least, int greatest, String due) {
        plan(c, Coders.Way.GREEDY, text, least, greatest, due);
    }

    private static void lazy(Check c, String text, String due) {
        plan(c, Coders.Way.LAZY, text, 2, 64, due);
    }

    // ---- the best plan

    /** The text is made anew from the bytes of the literals alone. */
    private static void planMakesTheText(Check c) {
        List<String> texts = new ArrayList<>(List.of("", "a", "aa", "a".repeat(64), Coders.different(64), THREE));
        for (int distance = 2; distance <= 60; distance++) {
            texts.add(Coders.repeating(distance, 64 - distance));
        }
        for (String text : texts) {
            for (Coders.Way way : Coders.Way.values()) {
                MatchCoder x = Coders.text(text, 2, 9);
                way.choose(x);
                StringBuilder made = new StringBuilder();
                for (int token = 0; token < x.tokenCount(); token++) {
                    int length = x.length(token);
                    int distance = x.distance(token);
                    for (int k = 0; k < length; k++) {
                        int place = made.length() - distance;
                        made.append(distance == 0 ? text.charAt(place) : made.charAt(place));
                    }
                }
                c.same("what the plan makes", made.toString(), text);
            }
        }
    }

    private static void leastCosts(Check c) {
        best(c, "", 3, 64, 0, "");
        best(c, "\0", 3, 64, 9, "L");
        best(c, THREE, 2, 64, 34, THREE_BEST);
        best(c, "aaaaa", 2, 2, 17, "L M2,1 M2,1");
        best(c, "a".repeat(64), 3, 64, 9 + 2 + 1 + 11, "L M63,1");
        best(c, "abcQbcdefRabcdef", 3, 64, 111, "L L L L L L L L L L L M5,7");
        best(c, "abaabaaa", 2, 2, 40, "L L L M2,3 A1,3 M2,1");
        best(c, "abbbaaab", 2, 64, 42, "L L M2,1 L A1,1 M2,6");
        best(c, "aaaaaa", 2, 3, 18, "L M2,1 A3,1");
        best(c, "aaaaaabb", 2, 3, 30, "L M2,1 A3,1 L A1,1");
        MatchCoder x = Coders.text("aaaaaba", 2, 64);
        c.same("with the price 0", Coders.tokensOf(Coders.Way.BEST, x), "L M2,1 M2,2 L A1,2");
        x.setPrice(30);
        c.same("with the price 30", Coders.tokensOf(Coders.Way.BEST, x), "L M4,1 L L");
        c.same("best() with the price 30", x.best(), 153);
        MatchCoder y = Coders.text("ababcabaa", 2, 64);
        c.same("one bit less is more than a token", Coders.tokensOf(Coders.Way.BEST, y), "L L M2,2 L M2,3 L A1,3");
        y.setPrice(1);
        c.same("the price 1 is enough", Coders.tokensOf(Coders.Way.BEST, y), "L L M2,2 L M3,5 L");
    }

    /** Of as many bits a plan with more tokens, also one that is ahead in the order of tokens. */
    private static void fewestTokens(Check c) {
        best(c, "aaabaacc", 2, 64, 46, "L M2,1 L M2,3 L L");
        best(c, "abaababb", 2, 2, 48, "L L L M2,3 M2,2 L");
        best(c, "aaaabaaaa", 2, 64, 34, "L M3,1 L M4,5");
        best(c, "abbbcbbaa", 2, 3, 55, "L L M2,1 L M2,3 L L");
    }

    private static void smallerKind(Check c) {
        best(c, "abbaba", 2, 64, 42, "L L L L M2,2");
        best(c, "aabbaba", 2, 3, 51, "L L L L L M2,2");
        best(c, "aaaaaaaa", 2, 3, 22, "L M2,1 M2,1 A3,1");
    }

    private static void greaterLength(Check c) {
        best(c, "ababab", 2, 3, 29, "L L M3,2 A1,2");
        best(c, "abababa", 2, 2, 32, "L L M2,2 A2,2 A1,2");
        best(c, "abaabaa", 2, 3, 38, "L L L M3,3 A1,3");
        best(c, "aaabcaaaaa", 2, 3, 45, "L M2,1 L L M3,5 M2,1");
        best(c, "aaabbaaaab", 2, 3, 43, "L M2,1 L A1,1 M3,5 M2,6");
    }

    private static void smallerDistance(Check c) {
        best(c, "aaaaaba", 2, 64, 31, "L M2,1 M2,2 L A1,2");
        best(c, "aaabbaa", 2, 64, 33, "L M2,1 L A1,1 M2,4");
        best(c, "abcabcQabc", 3, 64, 54, "L L L M3,3 L M3,4");
    }

    private static void noAgainOfNothing(Check c) {
        best(c, "aa", 3, 64, 18, "L L");
        best(c, "abcabc", 4, 64, 54, "L L L L L L");
        best(c, "\0\0\0\0", 6, 6, 36, "L L L L");
    }

    // ---- the quick ways

    private static void greedyTakesTheLongest(Check c) {
        greedy(c, "", 2, 64, "");
        greedy(c, THREE, 2, 64, THREE_GREEDY);
        greedy(c, "abcQbcdefRabcdef", 3, 64, "L L L L L L L L L L M3,10 M3,7");
        greedy(c, "xyabcdxyQabcd", 2, 64, "L L L L L L M2,6 L M4,7");
        greedy(c, "abbbaaba", 2, 64, "L L M2,1 L M2,5 L");
        greedy(c, "a".repeat(64), 2, 64, "L M63,1");
        greedy(c, Coders.different(64), 2, 64, "L ".repeat(64).trim());
    }

    private static void greedyAgain(Check c) {
        greedy(c, "abcabcaQ", 3, 3, "L L L M3,3 A1,3 L");
        greedy(c, "abcabcabcabc", 3, 3, "L L L M3,3 A3,3 A3,3");
        greedy(c, "abcabcabcabc", 3, 4, "L L L M4,3 A4,3 A1,3");
        greedy(c, "abcabcQR", 3, 3, "L L L M3,3 L L");
    }

    private static void greedyMatch(Check c) {
        greedy(c, "abcabcQabc", 3, 64, "L L L M3,3 L M3,4");
        greedy(c, "abcdabcQabcd", 3, 64, "L L L L M3,4 L M4,8");
        greedy(c, "abcdabcQabcd", 3, 3, "L L L L M3,4 L A3,4 L");
        greedy(c, "abcdabc", 4, 64, "L L L L L L L");
        greedy(c, "abcdabc", 3, 64, "L L L L M3,4");
    }

    private static void greedyPrefersAgain(Check c) {
        greedy(c, "aaabbb", 2, 64, "L M2,1 L A2,1");
        greedy(c, "aaaaa", 2, 2, "L M2,1 A2,1");
        greedy(c, "aaaabbb", 2, 64, "L M3,1 L A2,1");
        greedy(c, "aaaaaaaa", 6, 6, "L M6,1 A1,1");
        greedy(c, "aa", 2, 2, "L L");
    }

    private static void greedyThenMatch(Check c) {
        greedy(c, "abbbaab", 2, 64, "L L M2,1 L M2,5");
        greedy(c, "ababcba", 2, 64, "L L M2,2 L M2,4");
        greedy(c, "aaa", 2, 64, "L M2,1");
    }

    private static void greedyThenLiteral(Check c) {
        greedy(c, "a", 2, 64, "L");
        greedy(c, "ab", 2, 64, "L L");
        greedy(c, "aaab", 2, 64, "L M2,1 L");
        greedy(c, "aaaba", 2, 64, "L M2,1 L L");
    }

    private static void lazyDoesTheSame(Check c) {
        lazy(c, "", "");
        lazy(c, "a", "L");
        lazy(c, "aaabbb", "L M2,1 L A2,1");
        lazy(c, "abbbaab", "L L M2,1 L M2,5");
        lazy(c, "aaaba", "L M2,1 L L");
        lazy(c, "a".repeat(64), "L M63,1");
        lazy(c, Coders.different(64), "L ".repeat(64).trim());
    }

    /** A longer MATCH stands behind the AGAIN's first byte. */
    private static void lazyKeepsAgain(Check c) {
        lazy(c, "aaabbaa", "L M2,1 L A1,1 M2,4");
        lazy(c, "aaabbaaa", "L M2,1 L A1,1 M3,5");
        lazy(c, "aaaabbaa", "L M3,1 L A1,1 M2,4");
    }

    /** Each place is looked at anew, also the one behind such a literal; what is farther behind is not. */
    private static void lazyWaits(Check c) {
        lazy(c, "aabaaaa", "L L L L M3,1");
        lazy(c, "abaaaba", "L L L L M3,4");
        lazy(c, "aabaaaaba", "L L L L L M4,5");
        lazy(c, "abbababba", "L L L L L M4,5");
        lazy(c, "abcab", "L L L M2,3");
        lazy(c, "aaababbbb", "L M2,1 L M2,2 M3,1");
    }

    /** A distance of one more, beyond the window, would be the way to a longer AGAIN. */
    private static void lazyKeepsTheDistance(Check c) {
        MatchCoder x = Coders.text("abbbaababba", 2, 64);
        x.setWindow(5);
        c.same("LAZY in the window 5", Coders.tokensOf(Coders.Way.LAZY, x), "L L M2,1 L M2,5 M2,2 M2,3");
        MatchCoder y = Coders.text("abaabaaaba", 2, 3);
        y.setWindow(3);
        c.same("LAZY in the window 3", Coders.tokensOf(Coders.Way.LAZY, y), "L L L M3,3 M2,1 L L");
        lazy(c, THREE, THREE_LAZY);
        lazy(c, "aabbbaaaa", "L L L M2,1 L A3,1");
        lazy(c, "abaabbabb", "L L L M2,3 L A3,3");
    }

    private static void lazyNeedsGreater(Check c) {
        lazy(c, "aabaaa", "L L L M2,3 L");
        lazy(c, "abbaba", "L L L M2,3 L");
        lazy(c, "aaabaaaa", "L M2,1 L M3,4 L");
        lazy(c, "aabbbaaa", "L L L M2,1 M2,5 L");
        lazy(c, "aabaaaa", "L L L L M3,1");
        lazy(c, "aabbbaaaa", "L L L M2,1 L A3,1");
        plan(c, Coders.Way.LAZY, "aabaaaa", 2, 2, "L L L M2,3 M2,1");
        plan(c, Coders.Way.LAZY, "aabaaaa", 3, 64, "L L L L M3,1");
    }

    // ---- the plan that is kept

    private static void chosenLast(Check c) {
        Map<Coders.Way, String> plans = new LinkedHashMap<>();
        plans.put(Coders.Way.BEST, THREE_BEST);
        plans.put(Coders.Way.GREEDY, THREE_GREEDY);
        plans.put(Coders.Way.LAZY, THREE_LAZY);
        for (Coders.Way first : Coders.Way.values()) {
            for (Coders.Way then : Coders.Way.values()) {
                MatchCoder x = Coders.text(THREE, 2, 64);
                first.choose(x);
                then.choose(x);
                c.same("the plan of " + first + ", then " + then, Coders.tokensOf(x), plans.get(then));
            }
        }
    }

    /** Every other call that is taken leaves the plan, whatever else it changes. */
    private static void keptUntil(Check c) {
        List<Function<MatchCoder, ?>> others = List.of(
                MatchCoder::size, x -> x.byteAt(0), x -> x.longest(1), x -> x.nearest(1), x -> x.common(1, 1),
                x -> x.widthOf(1), MatchCoder::hasPlan, MatchCoder::tokenCount, x -> x.kind(0), x -> x.length(0),
                x -> x.distance(0), x -> x.start(0), x -> x.made(0), MatchCoder::ratio, MatchCoder::write,
                MatchCoder::bitCount, x -> x.bit(0), x -> x.flip(8), x -> x.appendBits(1, 1), x -> x.cutBits(1),
                MatchCoder::read, MatchCoder::errorPosition, MatchCoder::outputSize, x -> x.output(0),
                MatchCoder::differences, MatchCoder::digest);
        MatchCoder kept = Coders.middle();
        String tokens = Coders.tokensOf(kept);
        for (int k = 0; k < others.size(); k++) {
            others.get(k).apply(kept);
            c.same("hasPlan() behind call " + k, kept.hasPlan(), true);
        }
        c.same("the plan behind all of them", Coders.tokensOf(kept), tokens);
        List<Function<MatchCoder, ?>> changes = List.of(x -> x.feed(1L, 1), x -> x.fill(1, 1), x -> x.cut(1),
                x -> x.set(0, 1), x -> x.setWindow(39), x -> x.setLengths(3, 20), x -> x.setPrice(4));
        forgets(c, "change", changes);
    }

    private static void forgets(Check c, String what, List<Function<MatchCoder, ?>> calls) {
        for (int k = 0; k < calls.size(); k++) {
            for (Coders.Way way : Coders.Way.values()) {
                MatchCoder x = Coders.middle();
                way.choose(x);
                calls.get(k).apply(x);
                c.same("hasPlan() behind " + what + " " + k, x.hasPlan(), false);
                way.choose(x);
                c.same("hasPlan() when it is chosen anew", x.hasPlan(), true);
            }
        }
    }

    private static void keptByRefusals(Check c) {
        List<Function<MatchCoder, ?>> refused = List.of(x -> x.feed(1L, 0), x -> x.feed(1L, 1), x -> x.fill(256, 1),
                x -> x.fill(1, 1), x -> x.cut(65), x -> x.cut(-1), x -> x.set(64, 1), x -> x.set(0, 256),
                x -> x.setWindow(65), x -> x.setLengths(7, 64), x -> x.setPrice(31));
        for (int k = 0; k < refused.size(); k++) {
            MatchCoder x = Coders.full();
            Function<MatchCoder, ?> call = refused.get(k);
            c.same("whether call " + k + " throws", Check.outcome(() -> call.apply(x)) instanceof String, true);
            c.same("hasPlan() behind it", x.hasPlan(), true);
            c.same("tokenCount() behind it", x.tokenCount(), 64);
        }
    }

    private static void forgottenByNothing(Check c) {
        List<Function<MatchCoder, ?>> nothing = List.of(x -> x.cut(0), x -> x.set(0, 'a'), x -> x.setWindow(40),
                x -> x.setLengths(2, 20), x -> x.setPrice(3));
        forgets(c, "what changes nothing,", nothing);
        MatchCoder empty = new MatchCoder();
        empty.best();
        empty.cut(0);
        c.same("hasPlan() behind cut(0) of an empty text", empty.hasPlan(), false);
    }

    private static void bitsStay(Check c) {
        MatchCoder x = Coders.text(THREE, 2, 64);
        x.best();
        x.write();
        String row = Coders.bitsOf(x);
        x.greedy();
        c.same("the bits behind greedy()", Coders.bitsOf(x), row);
        x.lazy();
        x.feed(1L, 1);
        c.same("the bits behind feed", Coders.bitsOf(x), row);
        x.cut(10);
        x.setWindow(1);
        x.best();
        c.same("the bits behind best() of nothing", Coders.bitsOf(x), row);
        c.same("what is read of them", x.read(), 0);
        c.same("its size", x.outputSize(), 9);
    }

    // ---- promises

    private static void chooses(Check c, Coders.Way way, String due) {
        plan(c, way, THREE, 2, 64, due);
        MatchCoder empty = new MatchCoder();
        way.choose(empty);
        c.same("hasPlan() of an empty text", empty.hasPlan(), true);
        c.same("tokenCount() of an empty text", empty.tokenCount(), 0);
        MatchCoder full = Coders.full();
        way.choose(full);
        c.same("tokenCount() of a full text", full.tokenCount(), 64);
        ofTheTextAsItIs(c, way);
    }

    /** Nothing of a longer text or of other settings is left from an earlier choice. */
    private static void ofTheTextAsItIs(Check c, Coders.Way way) {
        String text = "abaabaaabbbaaababbabab";
        for (int size = 0; size <= text.length(); size++) {
            MatchCoder x = Coders.text(text);
            x.setPrice(30);
            way.choose(x);
            x.cut(text.length() - size);
            x.setLengths(2, 4);
            x.setPrice(0);
            x.setWindow(9);
            MatchCoder anew = Coders.text(text.substring(0, size), 2, 4);
            anew.setWindow(9);
            c.same(way + " of what is left", Coders.tokensOf(way, x), Coders.tokensOf(way, anew));
        }
    }

    private static void returnsCosts(Check c, Coders.Way way, int cost) {
        c.same(way + " of " + THREE, way.choose(Coders.text(THREE, 2, 64)), cost);
        MatchCoder x = Coders.text(THREE, 2, 64);
        x.setPrice(1);
        way.choose(x);
        c.same("with the price 1", way.choose(x), cost + x.tokenCount());
        c.same(way + " of an empty text", way.choose(new MatchCoder()), 0);
        MatchCoder empty = new MatchCoder();
        empty.setPrice(30);
        c.same(way + " of an empty text with the price 30", way.choose(empty), 0);
        c.same(way + " of the dearest text", way.choose(Coders.full()), 64 * 39);
        c.same(way + " of 64 equal bytes", way.choose(Coders.filled(0, 64)), 9 + 14);
    }

    private static void hasPlan(Check c) {
        c.same("hasPlan() of a new object", new MatchCoder().hasPlan(), false);
        for (Coders.Way way : Coders.Way.values()) {
            MatchCoder x = new MatchCoder();
            way.choose(x);
            c.same("hasPlan() of an empty text", x.hasPlan(), true);
            x.fill(1, 64);
            c.same("hasPlan() behind fill", x.hasPlan(), false);
            way.choose(x);
            c.same("hasPlan() of a full text", x.hasPlan(), true);
        }
        c.same("hasPlan() where only bits are", Coders.bits("1").hasPlan(), false);
    }

    private static void tokenCount(Check c) {
        MatchCoder x = new MatchCoder();
        x.best();
        c.same("tokenCount() of an empty text", x.tokenCount(), 0);
        x.fill(1, 1);
        x.best();
        c.same("tokenCount() of one byte", x.tokenCount(), 1);
        x.fill(1, 63);
        x.best();
        c.same("tokenCount() of 64 equal bytes", x.tokenCount(), 2);
        c.same("tokenCount() of 64 different bytes", Coders.full().tokenCount(), 64);
        c.same("tokenCount() of all kinds", Coders.middle().tokenCount(), 11);
    }

    private static void needsPlan(Check c, String what, Function<MatchCoder, ?> call) {
        c.refuses(what + " of a new object", MatchCoder::new, Check.STATE, call);
        c.refuses(what + " behind a change", () -> {
            MatchCoder x = Coders.middle();
            x.cut(0);
            return x;
        }, Check.STATE, call);
        c.takes(what + " of a plan", Coders::middle, call);
    }

    private static void needsToken(Check c, String name, Check.NumberCall call) {
        c.range(name + "(token) of 11", Coders::middle, 0, 10, Check.INDEX, call);
        c.range(name + "(token) of 64", Coders::full, 0, 63, Check.INDEX, call);
        c.refuses(name + "(0) of an empty plan", () -> {
            MatchCoder x = new MatchCoder();
            x.lazy();
            return x;
        }, Check.INDEX, x -> call.of(x, 0));
        MatchCoder shorter = Coders.full();
        shorter.cut(1);
        shorter.best();
        c.same(name + "(63) of a shorter plan", Check.outcome(() -> call.of(shorter, 63)),
                "throws.IndexOutOfBoundsException");
    }

    /** The plan: eight literals, a MATCH of 3, a literal and an AGAIN of 4, both of the distance 8. */
    private static void tokenAnswers(Check c, Check.NumberCall call, int first, int match, int literal, int again) {
        MatchCoder x = Coders.middle();
        c.same("of token 0, a LITERAL", call.of(x, 0), first);
        c.same("of token 8, a MATCH", call.of(x, 8), match);
        c.same("of token 9, a LITERAL", call.of(x, 9), literal);
        c.same("of token 10, an AGAIN", call.of(x, 10), again);
    }

    private static void distances(Check c) {
        tokenAnswers(c, MatchCoder::distance, 0, 8, 0, 8);
        MatchCoder x = Coders.text("abcabcxyzuvwxyz!vw");
        x.best();
        c.same("the tokens", Coders.tokensOf(x), "L L L M3,3 L L L L L L M3,6 L A2,6");
        MatchCoder far = Coders.text(Coders.repeating(62, 2), 2, 2);
        far.best();
        c.same("the greatest distance that there is", far.distance(62), 62);
        MatchCoder near = Coders.text("aaaaaaaa", 6, 6);
        near.best();
        c.same("the smallest distance of a MATCH", near.distance(1), 1);
        c.same("the smallest distance of an AGAIN", near.distance(2), 1);
    }

    private static void distanceOfLiteral(Check c) {
        MatchCoder x = Coders.full();
        for (int token = 0; token < 64; token++) {
            c.same("distance(" + token + ")", x.distance(token), 0);
        }
        c.same("distance of a LITERAL where a distance is present", Coders.middle().distance(9), 0);
    }

    private static void made(Check c) {
        MatchCoder x = Coders.middle();
        c.same("made(0)", x.made(0), 9);
        c.same("made(1)", x.made(1), 3);
        c.same("made(2)", x.made(2), 4);
        MatchCoder empty = new MatchCoder();
        empty.best();
        MatchCoder equal = Coders.filled(1, 64);
        equal.best();
        int[] literals = {64, 0, 0};
        int[] ofEqual = {1, 63, 0};
        for (int kind = 0; kind <= 2; kind++) {
            c.same("made(" + kind + ") of an empty text", empty.made(kind), 0);
            c.same("made(" + kind + ") of different bytes", Coders.full().made(kind), literals[kind]);
            c.same("made(" + kind + ") of equal bytes", equal.made(kind), ofEqual[kind]);
        }
    }

    private static void madeOfWrongKinds(Check c) {
        c.range("made(kind)", Coders::middle, 0, 2, Check.INDEX, MatchCoder::made);
        c.range("made(kind)", Coders::full, 0, 2, Check.INDEX, MatchCoder::made);
    }

    /** The price of tokens is no part of it. */
    private static void ratio(Check c) {
        c.same("ratio() of all kinds", Coders.middle().ratio(), 100.0 / 128.0);
        c.same("ratio() of a full text", Coders.full().ratio(), 1.125);
        MatchCoder one = Coders.text("a");
        one.greedy();
        c.same("ratio() of one byte", one.ratio(), 9.0 / 8.0);
        MatchCoder equal = Coders.filled(3, 64);
        equal.lazy();
        c.same("ratio() of equal bytes", equal.ratio(), 23.0 / 512.0);
        MatchCoder three = Coders.text("aaa", 2, 2);
        three.best();
        c.same("ratio() that no double is", three.ratio(), 13.0 / 24.0);
    }

    private static void ratioOfNothing(Check c) {
        for (Coders.Way way : Coders.Way.values()) {
            MatchCoder x = new MatchCoder();
            x.setPrice(30);
            way.choose(x);
            c.same("ratio() of a new object", x.ratio(), 0.0);
            MatchCoder emptied = Coders.full();
            emptied.cut(64);
            way.choose(emptied);
            c.same("ratio() of an emptied one", emptied.ratio(), 0.0);
        }
    }
}
