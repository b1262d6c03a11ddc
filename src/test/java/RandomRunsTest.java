import java.util.concurrent.Callable;

/** Long runs of mixed calls, right and wrong ones, on a MatchCoder and on the Model. */
public final class RandomRunsTest {
    private static final int RUNS = 1200;
    /** Below the 512 calls that the document promises, with room for the calls of the end. */
    private static final int CALLS = 490;

    private final Check check;
    private final Numbers numbers;
    private final MatchCoder x = new MatchCoder();
    private final Model m = new Model();
    private final int run;
    private final int alphabet;
    private int calls = 0;

    private RandomRunsTest(Check check, int run) {
        this.check = check;
        this.run = run;
        this.numbers = new Numbers(run);
        this.alphabet = run % 5 == 0 ? 256 : 1 + run % 4;
    }

    public static void main(String[] args) {
        Check check = new Check("RandomRunsTest");
        for (int run = 0; run < RUNS && check.good(); run++) {
            new RandomRunsTest(check, run).play();
        }
        check.end();
    }

    private void play() {
        while (calls < CALLS && check.good()) {
            someCalls();
            compare("digest()", x::digest, m::digest);
        }
        lastCalls();
    }

    private void compare(String what, Callable<?> got, Callable<?> due) {
        calls++;
        check.same("run " + run + ", call " + calls + ": " + what, Check.outcome(got), Check.outcome(due));
    }

    private void someCalls() {
        switch (numbers.below(8)) {
            case 0 -> changeText();
            case 1 -> changeSettings();
            case 2 -> askMatches();
            case 3 -> choose();
            case 4 -> askPlan();
            case 5 -> changeBits();
            case 6 -> readBits();
            default -> askRest();
        }
    }

    private int value() {
        return numbers.below(20) == 0 ? numbers.near(0, 255) : numbers.below(alphabet);
    }

    private void changeText() {
        int size = m.text.size();
        switch (numbers.below(6)) {
            case 0, 1, 2 -> {
                int many = numbers.near(1, 8);
                long bytes = numbers.bits();
                if (numbers.below(4) != 0) {
                    bytes = 0;
                    for (int k = 0; k < 8; k++) {
                        bytes = bytes << 8 | numbers.below(alphabet);
                    }
                }
                long all = bytes;
                compare("feed(" + all + ", " + many + ")", () -> x.feed(all, many), () -> m.feed(all, many));
            }
            case 3 -> {
                int value = value();
                int many = numbers.below(3) == 0 ? numbers.near(1, 64) : numbers.near(1, 12);
                compare("fill(" + value + ", " + many + ")", () -> x.fill(value, many), () -> m.fill(value, many));
            }
            case 4 -> {
                int many = numbers.below(4) == 0 ? numbers.near(0, size) : numbers.near(0, size / 3);
                compare("cut(" + many + ")", () -> x.cut(many), () -> m.cut(many));
            }
            default -> {
                int place = numbers.near(0, size - 1);
                int value = value();
                compare("set(" + place + ", " + value + ")", () -> x.set(place, value), () -> m.set(place, value));
            }
        }
    }

    private void changeSettings() {
        switch (numbers.below(3)) {
            case 0 -> {
                int window = numbers.near(1, 64);
                compare("setWindow(" + window + ")", () -> x.setWindow(window), () -> m.setWindow(window));
            }
            case 1 -> {
                int least = numbers.near(2, 6);
                int greatest = numbers.below(2) == 0 ? numbers.near(2, 64) : numbers.near(2, 12);
                compare("setLengths(" + least + ", " + greatest + ")",
                        () -> x.setLengths(least, greatest), () -> m.setLengths(least, greatest));
            }
            default -> {
                int price = numbers.near(0, 30);
                compare("setPrice(" + price + ")", () -> x.setPrice(price), () -> m.setPrice(price));
            }
        }
    }

    private void askMatches() {
        int place = numbers.near(0, m.text.size() - 1);
        int distance = numbers.near(1, Math.min(64, Math.max(1, place)));
        int n = numbers.near(1, 255);
        compare("longest(" + place + ")", () -> x.longest(place), () -> m.longest(place));
        compare("nearest(" + place + ")", () -> x.nearest(place), () -> m.nearest(place));
        compare("common(" + place + ", " + distance + ")",
                () -> x.common(place, distance), () -> m.common(place, distance));
        compare("widthOf(" + n + ")", () -> x.widthOf(n), () -> m.widthOf(n));
    }

    private void choose() {
        switch (numbers.below(3)) {
            case 0 -> compare("best()", x::best, m::best);
            case 1 -> compare("greedy()", x::greedy, () -> m.quick(false));
            default -> compare("lazy()", x::lazy, () -> m.quick(true));
        }
    }

    private void askPlan() {
        int token = numbers.near(0, m.plan == null ? 5 : m.plan.size() - 1);
        int kind = numbers.near(0, 2);
        compare("hasPlan()", x::hasPlan, () -> m.plan != null);
        compare("tokenCount()", x::tokenCount, () -> m.planned().size());
        compare("kind(" + token + ")", () -> x.kind(token), () -> m.token(token).kind());
        compare("length(" + token + ")", () -> x.length(token), () -> m.token(token).length());
        compare("distance(" + token + ")", () -> x.distance(token), () -> m.token(token).distance());
        compare("start(" + token + ")", () -> x.start(token), () -> m.start(token));
        compare("made(" + kind + ")", () -> x.made(kind), () -> m.made(kind));
        compare("ratio()", x::ratio, m::ratio);
    }

    private void changeBits() {
        int count = m.bits.length();
        switch (numbers.below(6)) {
            case 0 -> compare("write()", x::write, m::write);
            case 1 -> {
                int index = numbers.near(0, count - 1);
                compare("flip(" + index + ")", () -> x.flip(index), () -> m.flip(index));
            }
            case 2 -> {
                int many = numbers.below(6) == 0 ? numbers.near(0, count) : numbers.near(0, Math.min(count, 20));
                compare("cutBits(" + many + ")", () -> x.cutBits(many), () -> m.cutBits(many));
            }
            default -> appendSome();
        }
    }

    /** Bits that are a token, so that readings come far, or any bits at all. */
    private void appendSome() {
        for (int k = 0; k < 6; k++) {
            int kind = numbers.below(5);
            String form = kind == 0 ? Model.padded(numbers.below(65536), 16)
                    : kind == 1 ? "0" + Model.padded(numbers.below(256), 8)
                    : kind == 2 ? "10" + Model.number(numbers.between(1, 30)) + "010"
                    : kind == 3 ? "10" + Model.number(numbers.between(1, 3)) + "00" + Model.padded(numbers.between(4, 7), 3)
                    : "11" + Model.number(numbers.between(1, 127));
            int many = numbers.below(40) == 0 ? numbers.near(1, 16) : Math.min(16, form.length());
            int value = Integer.parseInt(form, 2) | (numbers.below(2) == 0 ? 0 : -1 << 24);
            compare("appendBits(" + value + ", " + many + ")",
                    () -> x.appendBits(value, many), () -> m.appendBits(value, many));
        }
    }

    private void readBits() {
        compare("read()", x::read, m::read);
        compare("errorPosition()", x::errorPosition, () -> m.errorPosition);
        compare("outputSize()", x::outputSize, () -> m.made.size());
    }

    private void askRest() {
        int place = numbers.near(0, m.text.size() - 1);
        int index = numbers.near(0, m.bits.length() - 1);
        int behind = numbers.near(0, m.made.size() - 1);
        compare("size()", x::size, m.text::size);
        compare("byteAt(" + place + ")", () -> x.byteAt(place), () -> m.byteAt(place));
        compare("bitCount()", x::bitCount, () -> m.bits.length());
        compare("bit(" + index + ")", () -> x.bit(index), () -> m.bit(index));
        compare("output(" + behind + ")", () -> x.output(behind), () -> m.output(behind));
        compare("differences()", x::differences, m::differences);
        compare("errorPosition()", x::errorPosition, () -> m.errorPosition);
    }

    private void lastCalls() {
        compare("best()", x::best, m::best);
        compare("write()", x::write, m::write);
        compare("read()", x::read, m::read);
        compare("differences()", x::differences, () -> 0);
        compare("digest()", x::digest, m::digest);
    }
}
