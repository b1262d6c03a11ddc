/** Promises 1 to 7, and what the description says of the text, sentence by sentence. */
public final class TextTest {
    public static void main(String[] args) {
        sentences().run();
    }

    static Sentences sentences() {
        return new Sentences("TextTest")
                .under("Description")
                .holds("Text. A text is a sequence of at most 64 bytes,", TextTest::atMost64)
                .holds("0 to 255,", TextTest::bytes0To255)
                .holds("whose places are numbered from 0.", TextTest::placesFrom0)
                .under("Promise 1: A new object")
                .holds("Creates a coder with an empty text,", TextTest::newText)
                .holds("without a plan,", TextTest::newPlan)
                .holds("without bits;", TextTest::newBits)
                .holds("nothing was read.", TextTest::newReading)
                .under("Promise 2: feed")
                .holds("Appends up to 8 bytes to the text.", TextTest::feedAppends)
                .holds("- `bytes`: the bytes: the lowest byte of this number is the last one, the next one the byte"
                        + " ahead of it, and so on", TextTest::feedOrder)
                .holds("Returns the size of the text.", TextTest::feedReturns)
                .holds("Throws `IllegalArgumentException` if many is not 1 to 8", TextTest::feedMany)
                .holds("Throws `IllegalStateException` if the text would have more than 64 bytes", TextTest::feedFull)
                .under("Promise 3: fill")
                .holds("Appends a byte several times.", TextTest::fillAppends)
                .holds("Returns the size of the text.", TextTest::fillReturns)
                .holds("Throws `IllegalArgumentException` if value is not 0 to 255,", TextTest::fillValue)
                .holds("or many is not 1 to 64", TextTest::fillMany)
                .holds("Throws `IllegalStateException` if the text would have more than 64 bytes", TextTest::fillFull)
                .under("Promise 4: cut")
                .holds("Removes the last bytes of the text.", TextTest::cutRemoves)
                .holds("Returns its size afterwards.", TextTest::cutReturns)
                .holds("Throws `IllegalArgumentException` if many is negative,", TextTest::cutNegative)
                .holds("or greater than its size", TextTest::cutTooMany)
                .under("Promise 5: set")
                .holds("Replaces a byte of the text.", TextTest::setReplaces)
                .holds("Returns the byte before.", TextTest::setReturns)
                .holds("Throws `IndexOutOfBoundsException` if there is no such place", TextTest::setPlace)
                .holds("Throws `IllegalArgumentException` if value is not 0 to 255", TextTest::setValue)
                .under("Promise 6: size")
                .holds("Returns the size of the text.", TextTest::size)
                .under("Promise 7: byteAt")
                .holds("Returns the byte there, 0 to 255.", TextTest::byteAtReturns)
                .holds("Throws `IndexOutOfBoundsException` if there is no such place", TextTest::byteAtPlace);
    }

    private static void atMost64(Check c) {
        MatchCoder x = Coders.filled(9, 63);
        c.same("feed as the byte 64", x.feed(8L, 1), 64);
        c.same("the full text", Coders.bytesOf(x), "\t".repeat(63) + "\b");
        c.refuses("feed as the byte 65", Coders::full, Check.STATE, y -> y.feed(8L, 1));
        c.refuses("fill as the byte 65", Coders::full, Check.STATE, y -> y.fill(8, 1));
    }

    private static void bytes0To255(Check c) {
        MatchCoder x = new MatchCoder();
        x.feed(0x00FFL, 2);
        x.fill(0, 1);
        x.fill(255, 1);
        x.feed(0x0101L, 2);
        x.set(4, 0);
        x.set(5, 255);
        c.same("the least and the greatest bytes", Coders.bytesOf(x), "\0\u00ff\0\u00ff\0\u00ff");
        c.refuses("fill with 256", Coders::middle, Check.ARGUMENT, y -> y.fill(256, 1));
        c.refuses("fill with -1", Coders::middle, Check.ARGUMENT, y -> y.fill(-1, 1));
    }

    private static void placesFrom0(Check c) {
        MatchCoder x = Coders.text("abc");
        c.same("byteAt(0)", x.byteAt(0), (int) 'a');
        c.same("byteAt(2)", x.byteAt(2), (int) 'c');
        c.refuses("byteAt(3) of three bytes", () -> Coders.text("abc"), Check.INDEX, y -> y.byteAt(3));
    }

    /** Also if another object has been used. */
    private static void newText(Check c) {
        Coders.full();
        MatchCoder x = new MatchCoder();
        c.same("size()", x.size(), 0);
        c.same("cut(0)", x.cut(0), 0);
        c.same("best()", x.best(), 0);
        c.refuses("byteAt(0)", MatchCoder::new, Check.INDEX, y -> y.byteAt(0));
        c.refuses("cut(1)", MatchCoder::new, Check.ARGUMENT, y -> y.cut(1));
    }

    private static void newPlan(Check c) {
        Coders.full();
        c.same("hasPlan()", new MatchCoder().hasPlan(), false);
        c.refuses("tokenCount()", MatchCoder::new, Check.STATE, MatchCoder::tokenCount);
        c.refuses("write()", MatchCoder::new, Check.STATE, MatchCoder::write);
    }

    private static void newBits(Check c) {
        Coders.full();
        c.same("bitCount()", new MatchCoder().bitCount(), 0);
        c.same("read()", new MatchCoder().read(), 0);
        c.refuses("bit(0)", MatchCoder::new, Check.INDEX, y -> y.bit(0));
        c.refuses("cutBits(1)", MatchCoder::new, Check.ARGUMENT, y -> y.cutBits(1));
    }

    private static void newReading(Check c) {
        Coders.full();
        MatchCoder x = new MatchCoder();
        c.same("outputSize()", x.outputSize(), 0);
        c.same("errorPosition()", x.errorPosition(), -1);
        c.same("differences()", x.differences(), 0);
        c.refuses("output(0)", MatchCoder::new, Check.INDEX, y -> y.output(0));
    }

    private static void feedAppends(Check c) {
        for (int many = 1; many <= 8; many++) {
            MatchCoder x = Coders.text("xyz");
            x.feed(0x6162636465666768L, many);
            c.same("the text behind feed of " + many, Coders.bytesOf(x), "xyz" + "abcdefgh".substring(8 - many));
        }
    }

    /** The bytes ahead of those that are fed don't matter, nor does the sign. */
    private static void feedOrder(Check c) {
        MatchCoder x = new MatchCoder();
        x.feed(0x80FF007F01FE4142L, 8);
        c.same("eight bytes", Coders.bytesOf(x), "\u0080\u00ff\0\u007f\1\u00feAB");
        MatchCoder y = new MatchCoder();
        y.feed(-2L, 3);
        y.feed(0x7FFFFFFFFFFFFF00L, 1);
        y.feed(Long.MIN_VALUE, 8);
        y.feed(0x5A00000000L, 4);
        c.same("parts of numbers", Coders.bytesOf(y), "\u00ff\u00ff\u00fe" + "\0" + "\u0080\0\0\0\0\0\0\0" + "\0\0\0\0");
    }

    private static void feedReturns(Check c) {
        MatchCoder x = new MatchCoder();
        c.same("feed of 1 to an empty text", x.feed(1L, 1), 1);
        for (int size = 9; size <= 57; size += 8) {
            c.same("feed of 8 up to " + size, x.feed(1L, 8), size);
        }
        c.same("feed of 7 up to 64", x.feed(1L, 7), 64);
    }

    private static void feedMany(Check c) {
        c.range("feed(1, many)", MatchCoder::new, 1, 8, Check.ARGUMENT, (x, many) -> x.feed(1L, many));
        c.range("feed(1, many)", Coders::middle, 1, 8, Check.ARGUMENT, (x, many) -> x.feed(1L, many));
    }

    private static void feedFull(Check c) {
        for (int k = 1; k <= 8; k++) {
            int many = k;
            c.same("feed of " + many + " up to 64", Coders.filled(5, 64 - many).feed(1L, many), 64);
            c.refuses("feed of " + many + " up to 65", () -> Coders.filled(5, 65 - many), Check.STATE,
                    x -> x.feed(1L, many));
            c.refuses("feed of " + many + " behind 64", Coders::full, Check.STATE, x -> x.feed(1L, many));
        }
    }

    private static void fillAppends(Check c) {
        for (int many : new int[] {1, 2, 61}) {
            MatchCoder x = Coders.text("xyz");
            x.fill('q', many);
            c.same("the text behind fill of " + many, Coders.bytesOf(x), "xyz" + "q".repeat(many));
        }
        c.same("the text behind fill of 64", Coders.bytesOf(Coders.filled('q', 64)), "q".repeat(64));
    }

    private static void fillReturns(Check c) {
        MatchCoder x = new MatchCoder();
        c.same("fill of 1 to an empty text", x.fill(1, 1), 1);
        c.same("fill of 62", x.fill(2, 62), 63);
        c.same("fill of 1 up to 64", x.fill(3, 1), 64);
        c.same("fill of 64 to an empty text", new MatchCoder().fill(1, 64), 64);
    }

    private static void fillValue(Check c) {
        c.range("fill(value, 3)", MatchCoder::new, 0, 255, Check.ARGUMENT, (x, value) -> x.fill(value, 3));
        c.range("fill(value, 48)", Coders::middle, 0, 255, Check.ARGUMENT, (x, value) -> x.fill(value, 48));
    }

    private static void fillMany(Check c) {
        c.range("fill(0, many)", MatchCoder::new, 1, 64, Check.ARGUMENT, (x, many) -> x.fill(0, many));
        for (int many : new int[] {0, -1, 65}) {
            c.refuses("fill(0, " + many + ")", Coders::middle, Check.ARGUMENT, x -> x.fill(0, many));
        }
    }

    private static void fillFull(Check c) {
        for (int k = 1; k <= 64; k++) {
            int many = k;
            c.same("fill of " + many + " up to 64", Coders.filled(5, 64 - many).fill(1, many), 64);
            c.refuses("fill of " + many + " up to 65", () -> Coders.filled(5, 65 - many), Check.STATE,
                    x -> x.fill(1, many));
        }
        c.refuses("fill of 1 behind 64", Coders::full, Check.STATE, x -> x.fill(1, 1));
        c.refuses("fill of 64 behind 64", Coders::full, Check.STATE, x -> x.fill(1, 64));
    }

    /** Nothing of what was removed comes back when bytes are appended. */
    private static void cutRemoves(Check c) {
        for (int many = 0; many <= 5; many++) {
            MatchCoder x = Coders.text("abcde");
            x.cut(many);
            c.same("the text behind cut of " + many, Coders.bytesOf(x), "abcde".substring(0, 5 - many));
            x.feed('z', 1);
            c.same("and behind feed", Coders.bytesOf(x), "abcde".substring(0, 5 - many) + "z");
        }
        MatchCoder y = Coders.full();
        y.cut(63);
        c.same("the text behind cut of 63", Coders.bytesOf(y), "\u0010");
    }

    private static void cutReturns(Check c) {
        c.same("cut(0) of an empty text", new MatchCoder().cut(0), 0);
        c.same("cut(0) of five bytes", Coders.text("abcde").cut(0), 5);
        c.same("cut(2) of five bytes", Coders.text("abcde").cut(2), 3);
        c.same("cut(5) of five bytes", Coders.text("abcde").cut(5), 0);
        c.same("cut(0) of a full text", Coders.full().cut(0), 64);
        c.same("cut(64) of a full text", Coders.full().cut(64), 0);
    }

    private static void cutNegative(Check c) {
        for (int many : new int[] {-1, -16, -64, Integer.MIN_VALUE}) {
            c.refuses("cut(" + many + ") of an empty text", MatchCoder::new, Check.ARGUMENT, x -> x.cut(many));
            c.refuses("cut(" + many + ") of a text", Coders::middle, Check.ARGUMENT, x -> x.cut(many));
            c.refuses("cut(" + many + ") of a full text", Coders::full, Check.ARGUMENT, x -> x.cut(many));
        }
    }

    private static void cutTooMany(Check c) {
        for (int k = 0; k <= 64; k++) {
            int size = k;
            c.same("cut of all " + size, Coders.filled(1, size).cut(size), 0);
            c.refuses("cut of one more than " + size, () -> Coders.filled(1, size), Check.ARGUMENT, x -> x.cut(size + 1));
        }
        c.range("cut(many)", Coders::middle, 0, 16, Check.ARGUMENT, (x, many) -> x.cut(many));
    }

    private static void setReplaces(Check c) {
        for (int place = 0; place < 5; place++) {
            MatchCoder x = Coders.text("abcde");
            x.set(place, 'z');
            c.same("the text behind set at " + place, Coders.bytesOf(x),
                    "abcde".substring(0, place) + "z" + "abcde".substring(place + 1));
        }
        MatchCoder y = Coders.full();
        y.set(0, 1);
        y.set(63, 2);
        c.same("the first byte of a full text", y.byteAt(0), 1);
        c.same("the last byte of a full text", y.byteAt(63), 2);
    }

    private static void setReturns(Check c) {
        MatchCoder x = Coders.text("\u00ff\0a");
        c.same("set(0, 0)", x.set(0, 0), 255);
        c.same("set(0, 7) then", x.set(0, 7), 0);
        c.same("set(1, 255)", x.set(1, 255), 0);
        c.same("set(1, 255) then", x.set(1, 255), 255);
        c.same("set(2, 98)", x.set(2, 98), 97);
    }

    private static void setPlace(Check c) {
        c.refuses("set(0, 1) of an empty text", MatchCoder::new, Check.INDEX, x -> x.set(0, 1));
        c.range("set(place, 1) of one byte", () -> Coders.filled(2, 1), 0, 0, Check.INDEX, (x, place) -> x.set(place, 1));
        c.range("set(place, 1) of 16", Coders::middle, 0, 15, Check.INDEX, (x, place) -> x.set(place, 1));
        c.range("set(place, 1) of 64", Coders::full, 0, 63, Check.INDEX, (x, place) -> x.set(place, 1));
        MatchCoder y = Coders.filled(2, 64);
        y.cut(1);
        c.same("set behind a cut", Check.outcome(() -> y.set(63, 1)), "throws.IndexOutOfBoundsException");
    }

    private static void setValue(Check c) {
        c.range("set(0, value)", Coders::middle, 0, 255, Check.ARGUMENT, (x, value) -> x.set(0, value));
        c.range("set(63, value)", Coders::full, 0, 255, Check.ARGUMENT, (x, value) -> x.set(63, value));
    }

    private static void size(Check c) {
        MatchCoder x = new MatchCoder();
        c.same("size() of an empty text", x.size(), 0);
        for (int size = 1; size <= 64; size++) {
            x.fill(size, 1);
            c.same("size() of " + size, x.size(), size);
        }
        x.set(0, 9);
        x.best();
        c.same("size() behind set and best", x.size(), 64);
        x.cut(64);
        c.same("size() behind cut", x.size(), 0);
    }

    private static void byteAtReturns(Check c) {
        for (int first = 0; first <= 192; first += 64) {
            MatchCoder x = new MatchCoder();
            for (int k = 0; k < 64; k++) {
                x.feed(first + k, 1);
            }
            for (int k = 0; k < 64; k++) {
                c.same("byteAt(" + k + ")", x.byteAt(k), first + k);
            }
        }
    }

    private static void byteAtPlace(Check c) {
        c.refuses("byteAt(0) of an empty text", MatchCoder::new, Check.INDEX, x -> x.byteAt(0));
        c.range("byteAt(place) of one byte", () -> Coders.filled(2, 1), 0, 0, Check.INDEX, MatchCoder::byteAt);
        c.range("byteAt(place) of 16", Coders::middle, 0, 15, Check.INDEX, MatchCoder::byteAt);
        c.range("byteAt(place) of 64", Coders::full, 0, 63, Check.INDEX, MatchCoder::byteAt);
        MatchCoder y = Coders.filled(2, 64);
        y.cut(1);
        c.same("byteAt behind a cut", Check.outcome(() -> y.byteAt(63)), "throws.IndexOutOfBoundsException");
    }
}
