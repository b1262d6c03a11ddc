import java.util.List;
import java.util.function.Function;
import java.util.function.Supplier;

/** What the document says of every method, and of the number of calls. */
public final class EveryMethodTest {
    /** A call by its name, as each refused one is told by it. */
    private record Call(String name, Class<? extends Exception> due, Function<MatchCoder, ?> made) {
        void refused(Check c, String start, Supplier<MatchCoder> object) {
            c.refuses(name + " of " + start, object, due, made);
        }
    }

    /** Whatever the object holds. */
    private static final List<Call> ALWAYS = List.of(
            argument("feed(1, 0)", x -> x.feed(1L, 0)), argument("feed(1, 9)", x -> x.feed(1L, 9)),
            argument("fill(-1, 1)", x -> x.fill(-1, 1)), argument("fill(256, 1)", x -> x.fill(256, 1)),
            argument("fill(1, 0)", x -> x.fill(1, 0)), argument("fill(1, 65)", x -> x.fill(1, 65)),
            argument("cut(-1)", x -> x.cut(-1)), argument("cut(65)", x -> x.cut(65)),
            index("set(-1, 1)", x -> x.set(-1, 1)), index("set(64, 1)", x -> x.set(64, 1)),
            index("byteAt(-1)", x -> x.byteAt(-1)), index("byteAt(64)", x -> x.byteAt(64)),
            argument("setWindow(0)", x -> x.setWindow(0)), argument("setWindow(65)", x -> x.setWindow(65)),
            argument("setLengths(1, 9)", x -> x.setLengths(1, 9)), argument("setLengths(7, 9)", x -> x.setLengths(7, 9)),
            argument("setLengths(2, 1)", x -> x.setLengths(2, 1)), argument("setLengths(2, 65)", x -> x.setLengths(2, 65)),
            argument("setLengths(6, 5)", x -> x.setLengths(6, 5)),
            argument("setPrice(-1)", x -> x.setPrice(-1)), argument("setPrice(31)", x -> x.setPrice(31)),
            index("longest(-1)", x -> x.longest(-1)), index("longest(64)", x -> x.longest(64)),
            index("nearest(-1)", x -> x.nearest(-1)), index("nearest(64)", x -> x.nearest(64)),
            index("common(-1, 1)", x -> x.common(-1, 1)), index("common(64, 1)", x -> x.common(64, 1)),
            argument("widthOf(0)", x -> x.widthOf(0)), argument("widthOf(256)", x -> x.widthOf(256)),
            index("bit(-1)", x -> x.bit(-1)), index("bit(800)", x -> x.bit(800)),
            index("flip(-1)", x -> x.flip(-1)), index("flip(800)", x -> x.flip(800)),
            argument("appendBits(1, 0)", x -> x.appendBits(1, 0)), argument("appendBits(1, 17)", x -> x.appendBits(1, 17)),
            argument("cutBits(-1)", x -> x.cutBits(-1)), argument("cutBits(801)", x -> x.cutBits(801)),
            index("output(-1)", x -> x.output(-1)), index("output(200)", x -> x.output(200)));

    private static final List<Call> WITHOUT_PLAN = List.of(
            state("tokenCount()", MatchCoder::tokenCount), state("kind(0)", x -> x.kind(0)),
            state("length(0)", x -> x.length(0)), state("distance(0)", x -> x.distance(0)),
            state("start(0)", x -> x.start(0)), state("made(0)", x -> x.made(0)),
            state("ratio()", MatchCoder::ratio), state("write()", MatchCoder::write));

    private static final List<Call> WITH_PLAN = List.of(
            index("kind(-1)", x -> x.kind(-1)), index("kind(64)", x -> x.kind(64)),
            index("length(-1)", x -> x.length(-1)), index("length(64)", x -> x.length(64)),
            index("distance(-1)", x -> x.distance(-1)), index("distance(64)", x -> x.distance(64)),
            index("start(-1)", x -> x.start(-1)), index("start(64)", x -> x.start(64)),
            index("made(-1)", x -> x.made(-1)), index("made(3)", x -> x.made(3)));

    private static final List<Call> WITH_TEXT = List.of(
            argument("set(0, -1)", x -> x.set(0, -1)), argument("set(0, 256)", x -> x.set(0, 256)),
            argument("common(5, 0)", x -> x.common(5, 0)), argument("common(5, 6)", x -> x.common(5, 6)));

    private static final List<Call> FULL = List.of(
            state("feed(1, 1)", x -> x.feed(1L, 1)), state("feed(1, 8)", x -> x.feed(1L, 8)),
            state("fill(1, 1)", x -> x.fill(1, 1)), state("fill(1, 64)", x -> x.fill(1, 64)),
            state("appendBits(1, 1)", x -> x.appendBits(1, 1)), state("appendBits(1, 16)", x -> x.appendBits(1, 16)));

    public static void main(String[] args) {
        sentences().run();
    }

    static Sentences sentences() {
        return new Sentences("EveryMethodTest")
                .under("What it is")
                .holds("An object is used for at most 512 calls after it has been made; what later calls answer is free.",
                        EveryMethodTest::calls512)
                .under("Description")
                .holds("A method that throws an exception changes nothing.", EveryMethodTest::changesNothing)
                .holds("If several exceptions apply, the one that is named first is thrown.", EveryMethodTest::namedFirst);
    }

    private static Call argument(String name, Function<MatchCoder, ?> made) {
        return new Call(name, Check.ARGUMENT, made);
    }

    private static Call state(String name, Function<MatchCoder, ?> made) {
        return new Call(name, Check.STATE, made);
    }

    private static Call index(String name, Function<MatchCoder, ?> made) {
        return new Call(name, Check.INDEX, made);
    }

    /** All 512 calls of an object are answered, also if each of them is the dearest one. */
    private static void calls512(Check c) {
        for (Coders.Way way : Coders.Way.values()) {
            for (int value : new int[] {0, 255}) {
                MatchCoder x = Coders.filled(value, 64);
                for (int call = 2; call <= 512; call++) {
                    c.same(way + " as call " + call, way.choose(x), 23);
                }
            }
        }
        MatchCoder y = new MatchCoder();
        Model m = new Model();
        for (int call = 1; call <= 509; call += 4) {
            int value = call % 3;
            c.same("fill as call " + call, y.fill(value, 1), m.fill(value, 1));
            c.same("lazy as call " + (call + 1), y.lazy(), m.quick(true));
            c.same("digest as call " + (call + 2), y.digest(), m.digest());
            int many = m.text.size() == 64 ? 64 : 0;
            c.same("cut as call " + (call + 3), y.cut(many), m.cut(many));
        }
        MatchCoder z = new MatchCoder();
        for (int call = 1; call <= 511; call++) {
            Check.outcome(() -> z.feed(1L, 9));
        }
        c.same("size() as call 512, behind 511 refused ones", z.size(), 0);
    }

    private static void changesNothing(Check c) {
        ALWAYS.forEach(call -> call.refused(c, "a new object", MatchCoder::new));
        WITHOUT_PLAN.forEach(call -> call.refused(c, "a new object", MatchCoder::new));
        for (List<Call> calls : List.of(ALWAYS, WITH_PLAN, WITH_TEXT)) {
            calls.forEach(call -> call.refused(c, "one that holds something", Coders::middle));
        }
        WITHOUT_PLAN.forEach(call -> call.refused(c, "one without a plan", EveryMethodTest::unplanned));
        for (List<Call> calls : List.of(ALWAYS, WITH_PLAN, WITH_TEXT, FULL)) {
            calls.forEach(call -> call.refused(c, "a full one", Coders::full));
        }
    }

    private static MatchCoder unplanned() {
        MatchCoder x = Coders.full();
        x.set(0, 0);
        return x;
    }

    private static void namedFirst(Check c) {
        List<Call> ofFull = List.of(
                argument("feed(1, 0)", x -> x.feed(1L, 0)), argument("feed(1, 9)", x -> x.feed(1L, 9)),
                argument("fill(256, 1)", x -> x.fill(256, 1)), argument("fill(-1, 64)", x -> x.fill(-1, 64)),
                argument("fill(1, 65)", x -> x.fill(1, 65)), argument("fill(1, 0)", x -> x.fill(1, 0)),
                argument("appendBits(1, 17)", x -> x.appendBits(1, 17)),
                argument("appendBits(1, 0)", x -> x.appendBits(1, 0)),
                index("set(64, 256)", x -> x.set(64, 256)), index("set(-1, -1)", x -> x.set(-1, -1)),
                index("common(64, 0)", x -> x.common(64, 0)), index("common(64, 65)", x -> x.common(64, 65)),
                index("common(-1, 1)", x -> x.common(-1, 1)), index("common(-1, -1)", x -> x.common(-1, -1)));
        ofFull.forEach(call -> call.refused(c, "a full one", Coders::full));
        List<Call> ofUnplanned = List.of(
                state("kind(-1)", x -> x.kind(-1)), state("kind(64)", x -> x.kind(64)),
                state("length(-1)", x -> x.length(-1)), state("length(64)", x -> x.length(64)),
                state("distance(-1)", x -> x.distance(-1)), state("distance(64)", x -> x.distance(64)),
                state("start(-1)", x -> x.start(-1)), state("start(64)", x -> x.start(64)),
                state("made(-1)", x -> x.made(-1)), state("made(3)", x -> x.made(3)));
        ofUnplanned.forEach(call -> call.refused(c, "one without a plan", EveryMethodTest::unplanned));
        ofUnplanned.forEach(call -> call.refused(c, "a new object", MatchCoder::new));
        c.refuses("set(0, 256) of an empty text", MatchCoder::new, Check.INDEX, x -> x.set(0, 256));
        c.refuses("common(0, 0) of an empty text", MatchCoder::new, Check.INDEX, x -> x.common(0, 0));
    }
}
