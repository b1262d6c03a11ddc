/** Promises 26 to 31, sentence by sentence. */
public final class BitsTest {
    public static void main(String[] args) {
        sentences().run();
    }

    static Sentences sentences() {
        return new Sentences("BitsTest")
                .under("Promise 26: write")
                .holds("Writes the bits of the plan;", BitsTest::writes)
                .holds("they replace those that there are.", BitsTest::writeReplaces)
                .holds("Returns their number.", BitsTest::writeReturns)
                .holds("Throws `IllegalStateException` if there is no plan", BitsTest::writeThrows)
                .under("Promise 27: bitCount")
                .holds("Returns the number of bits.", BitsTest::bitCount)
                .under("Promise 28: bit")
                .holds("- `index`: the number of a bit, from 0 Returns the bit.", BitsTest::bitReturns)
                .holds("Throws `IndexOutOfBoundsException` if there is no such bit",
                        c -> noSuchBit(c, "bit", MatchCoder::bit))
                .under("Promise 29: flip")
                .holds("Turns a bit into the other one.", BitsTest::flipTurns)
                .holds("Returns the bit before.", BitsTest::flipReturns)
                .holds("Throws `IndexOutOfBoundsException` if there is no such bit",
                        c -> noSuchBit(c, "flip", MatchCoder::flip))
                .under("Promise 30: appendBits")
                .holds("Appends up to 16 bits.", BitsTest::appends)
                .holds("- `bits`: the bits: the lowest one of this number is the last one", BitsTest::appendsInOrder)
                .holds("Returns the number of bits.", BitsTest::appendReturns)
                .holds("Throws `IllegalArgumentException` if many is not 1 to 16", BitsTest::appendMany)
                .holds("Throws `IllegalStateException` if there would be more than 800 bits", BitsTest::appendFull)
                .under("Promise 31: cutBits")
                .holds("Removes the last bits.", BitsTest::cutRemoves)
                .holds("Returns how many are left.", BitsTest::cutReturns)
                .holds("Throws `IllegalArgumentException` if many is negative,", BitsTest::cutNegative)
                .holds("or greater than their number", BitsTest::cutTooMany);
    }

    private static void writes(Check c) {
        MatchCoder x = Coders.text("\u0081\u00ff\u0081\u00ff\u0081\u00ff\u0081\u0009\u0081\u0009", 2, 5);
        x.best();
        x.write();
        c.same("the bits of all kinds", Coders.bitsOf(x),
                "010000001" + "011111111" + "10" + "010" + "00100" + "000001001" + "11" + "010");
        c.same("hasPlan() then", x.hasPlan(), true);
        MatchCoder empty = new MatchCoder();
        empty.best();
        empty.write();
        c.same("the bits of an empty text", Coders.bitsOf(empty), "");
        MatchCoder longest = Coders.full();
        longest.write();
        c.same("the most bits that a plan has", longest.bitCount(), 576);
        c.same("the last of them, of the byte 79", longest.bit(575), 1);
        longest.cutBits(558);
        c.same("the first of them", Coders.bitsOf(longest), "000010000" + "000010001");
    }

    private static void writeReplaces(Check c) {
        MatchCoder x = Coders.full();
        x.write();
        c.same("bitCount() where 800 bits were", x.bitCount(), 576);
        x.cut(63);
        x.best();
        x.write();
        c.same("the bits of a shorter text", Coders.bitsOf(x), "000010000");
        x.write();
        c.same("the bits, written again", Coders.bitsOf(x), "000010000");
        x.cut(1);
        x.best();
        x.write();
        c.same("the bits of an empty text", x.bitCount(), 0);
        MatchCoder three = Coders.text("aaabaaaaa", 2, 64);
        three.lazy();
        three.write();
        three.best();
        three.write();
        String best = Coders.bitsOf(three);
        three.greedy();
        three.write();
        c.same("the bits of the greedy plan are others", Coders.bitsOf(three).equals(best), false);
        three.best();
        three.write();
        c.same("the bits of the best plan again", Coders.bitsOf(three), best);
    }

    private static void writeReturns(Check c) {
        MatchCoder empty = Coders.bits("101");
        empty.best();
        c.same("write() of an empty text", empty.write(), 0);
        c.same("write() of one byte", written(Coders.text("a")), 9);
        c.same("write() of equal bytes", written(Coders.filled(0, 64)), 23);
        c.same("write() of a full text, with the price 30", Coders.full().write(), 576);
        c.same("write() of all kinds, with the price 3", Coders.middle().write(), 100);
    }

    private static int written(MatchCoder x) {
        x.best();
        return x.write();
    }

    private static void writeThrows(Check c) {
        c.refuses("write() of a new object", MatchCoder::new, Check.STATE, MatchCoder::write);
        c.refuses("write() where bits are", () -> Coders.bits("1011"), Check.STATE, MatchCoder::write);
        c.refuses("write() behind a change", () -> {
            MatchCoder x = Coders.full();
            x.setPrice(30);
            return x;
        }, Check.STATE, MatchCoder::write);
        c.takes("write() of a plan", Coders::middle, MatchCoder::write);
    }

    private static void bitCount(Check c) {
        MatchCoder x = new MatchCoder();
        c.same("bitCount() of none", x.bitCount(), 0);
        for (int count = 1; count <= 100; count++) {
            x.appendBits(count, 1);
            c.same("bitCount() of " + count, x.bitCount(), count);
        }
        c.same("bitCount() of all that can be", Coders.full().bitCount(), 800);
        x.flip(0);
        x.read();
        c.same("bitCount() behind flip and read", x.bitCount(), 100);
        x.cutBits(100);
        c.same("bitCount() behind cutBits", x.bitCount(), 0);
    }

    private static void bitReturns(Check c) {
        MatchCoder x = Coders.bits("100");
        c.same("bit(0)", x.bit(0), 1);
        c.same("bit(1)", x.bit(1), 0);
        c.same("bit(2)", x.bit(2), 0);
        c.same("bit(0) of 800", Coders.bits("1" + "0".repeat(799)).bit(0), 1);
        c.same("bit(799) of 800", Coders.bits("0".repeat(799) + "1").bit(799), 1);
    }

    private static void noSuchBit(Check c, String name, Check.NumberCall call) {
        c.refuses(name + "(0) of none", MatchCoder::new, Check.INDEX, x -> call.of(x, 0));
        c.range(name + " of 1", () -> Coders.bits("1"), 0, 0, Check.INDEX, call);
        c.range(name + " of 96", Coders::middle, 0, 95, Check.INDEX, call);
        c.range(name + " of 800", Coders::full, 0, 799, Check.INDEX, call);
        MatchCoder y = Coders.full();
        y.cutBits(1);
        c.same(name + "(799) behind cutBits", Check.outcome(() -> call.of(y, 799)), "throws.IndexOutOfBoundsException");
    }

    private static void flipTurns(Check c) {
        for (int index = 0; index < 4; index++) {
            MatchCoder x = Coders.bits("1010");
            x.flip(index);
            String other = index % 2 == 0 ? "0" : "1";
            c.same("the bits behind flip(" + index + ")", Coders.bitsOf(x),
                    "1010".substring(0, index) + other + "1010".substring(index + 1));
            x.flip(index);
            c.same("the bits behind flip(" + index + ") twice", Coders.bitsOf(x), "1010");
        }
        MatchCoder y = Coders.full();
        y.flip(799);
        c.same("bit(799) behind flip", y.bit(799), 1);
        c.same("bitCount() behind flip", y.bitCount(), 800);
    }

    private static void flipReturns(Check c) {
        MatchCoder x = Coders.bits("10");
        c.same("flip(0)", x.flip(0), 1);
        c.same("flip(0) again", x.flip(0), 0);
        c.same("flip(1)", x.flip(1), 0);
        c.same("flip(1) again", x.flip(1), 1);
        c.same("flip(799) of 800", Coders.bits("0".repeat(799) + "1").flip(799), 1);
    }

    private static void appends(Check c) {
        for (int many = 1; many <= 16; many++) {
            MatchCoder x = Coders.bits("101");
            x.appendBits(0xB5A6, many);
            c.same("the bits behind appendBits of " + many, Coders.bitsOf(x),
                    "101" + "1011010110100110".substring(16 - many));
            c.same("hasPlan() then", x.hasPlan(), false);
        }
    }

    /** The bits ahead of those that are appended don't matter, nor does the sign. */
    private static void appendsInOrder(Check c) {
        MatchCoder x = new MatchCoder();
        x.appendBits(0xF8001, 16);
        x.appendBits(-1, 1);
        x.appendBits(-2, 2);
        x.appendBits(Integer.MIN_VALUE, 16);
        x.appendBits(Integer.MAX_VALUE, 16);
        x.appendBits(4, 3);
        x.appendBits(1, 3);
        c.same("the bits", Coders.bitsOf(x),
                "1000000000000001" + "1" + "10" + "0".repeat(16) + "1".repeat(16) + "100" + "001");
    }

    private static void appendReturns(Check c) {
        MatchCoder x = new MatchCoder();
        c.same("appendBits of 1 to none", x.appendBits(0, 1), 1);
        for (int count = 17; count <= 785; count += 16) {
            c.same("appendBits of 16 up to " + count, x.appendBits(0, 16), count);
        }
        c.same("appendBits of 15 up to 800", x.appendBits(0, 15), 800);
    }

    private static void appendMany(Check c) {
        c.range("appendBits(1, many)", MatchCoder::new, 1, 16, Check.ARGUMENT, (x, many) -> x.appendBits(1, many));
        c.range("appendBits(1, many)", Coders::middle, 1, 16, Check.ARGUMENT, (x, many) -> x.appendBits(1, many));
    }

    private static void appendFull(Check c) {
        for (int k = 1; k <= 16; k++) {
            int many = k;
            MatchCoder x = Coders.bits("0".repeat(800 - many));
            c.same("appendBits of " + many + " up to 800", x.appendBits(-1, many), 800);
            c.same("the last of them", x.bit(799), 1);
            c.refuses("appendBits of " + many + " up to 801", () -> Coders.bits("0".repeat(801 - many)), Check.STATE,
                    y -> y.appendBits(-1, many));
            c.refuses("appendBits of " + many + " behind 800", Coders::full, Check.STATE, y -> y.appendBits(-1, many));
        }
    }

    /** Nothing of what was removed comes back when bits are appended. */
    private static void cutRemoves(Check c) {
        for (int many = 0; many <= 5; many++) {
            MatchCoder x = Coders.bits("11011");
            x.cutBits(many);
            c.same("the bits behind cutBits of " + many, Coders.bitsOf(x), "11011".substring(0, 5 - many));
            x.appendBits(0, 2);
            c.same("and behind appendBits", Coders.bitsOf(x), "11011".substring(0, 5 - many) + "00");
        }
        MatchCoder y = Coders.bits("1" + "0".repeat(799));
        y.cutBits(799);
        c.same("the bits behind cutBits of 799", Coders.bitsOf(y), "1");
    }

    private static void cutReturns(Check c) {
        c.same("cutBits(0) of none", new MatchCoder().cutBits(0), 0);
        c.same("cutBits(0) of five", Coders.bits("11011").cutBits(0), 5);
        c.same("cutBits(2) of five", Coders.bits("11011").cutBits(2), 3);
        c.same("cutBits(5) of five", Coders.bits("11011").cutBits(5), 0);
        c.same("cutBits(0) of 800", Coders.full().cutBits(0), 800);
        c.same("cutBits(1) of 800", Coders.full().cutBits(1), 799);
        c.same("cutBits(800) of 800", Coders.full().cutBits(800), 0);
    }

    private static void cutNegative(Check c) {
        for (int many : new int[] {-1, -96, -800, Integer.MIN_VALUE}) {
            c.refuses("cutBits(" + many + ") of none", MatchCoder::new, Check.ARGUMENT, x -> x.cutBits(many));
            c.refuses("cutBits(" + many + ") of some", Coders::middle, Check.ARGUMENT, x -> x.cutBits(many));
            c.refuses("cutBits(" + many + ") of 800", Coders::full, Check.ARGUMENT, x -> x.cutBits(many));
        }
    }

    private static void cutTooMany(Check c) {
        c.refuses("cutBits(1) of none", MatchCoder::new, Check.ARGUMENT, x -> x.cutBits(1));
        c.range("cutBits of 1", () -> Coders.bits("0"), 0, 1, Check.ARGUMENT, MatchCoder::cutBits);
        c.range("cutBits of 96", Coders::middle, 0, 96, Check.ARGUMENT, MatchCoder::cutBits);
        c.range("cutBits of 800", Coders::full, 0, 800, Check.ARGUMENT, MatchCoder::cutBits);
    }
}
