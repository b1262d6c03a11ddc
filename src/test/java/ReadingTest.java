/** Promises 32 to 36, and what the description says of reading, sentence by sentence. */
public final class ReadingTest {
    private static final String A = Coders.literal(1);
    private static final String B = Coders.literal(2);
    /** 199 and 200 bytes; their next bit is the number 27. */
    private static final String NEARLY_FULL = A + Coders.match(1, 198);
    private static final String FULL = A + Coders.match(1, 199);

    public static void main(String[] args) {
        sentences().run();
    }

    static Sentences sentences() {
        Sentences all = new Sentences("ReadingTest");
        ofTheDescription(all);
        ofPromises(all);
        return all;
    }

    private static void ofTheDescription(Sentences all) {
        all.under("Description")
                .holds("Reading. Bits are read from the first one on as tokens, until there are none left;",
                        ReadingTest::readsAll)
                .holds("it ends with the first error,", ReadingTest::endsWithTheFirst)
                .holds("and what was made until then is kept (of a token with an error nothing is made).",
                        ReadingTest::keepsWhatWasMade)
                .holds("The errors, with the position of the first bit of their token:", ReadingTest::positions)
                .holds("1: the bits end inside the token.", ReadingTest::ended)
                .holds("2: a number is written with more than seven bits 0 ahead of its form", ReadingTest::moreThanSeven)
                .holds("(as soon as the eighth of them is read; the form is not read then).", ReadingTest::asSoonAsTheEighth)
                .holds("3: d is greater than the number of bytes that were made so far.", ReadingTest::tooFar)
                .holds("4: an AGAIN where the present distance is 0.", ReadingTest::noDistance)
                .holds("5: more than 200 bytes would be made.", ReadingTest::tooLong)
                .holds("A token is read as a whole before the errors 3 to 5 are looked for,", ReadingTest::asAWhole)
                .holds("in this order.", ReadingTest::inOrder)
                .holds("(Lengths and distances can be others than those of plans.)", ReadingTest::others);
    }

    private static void ofPromises(Sentences all) {
        all.under("Promise 32: read")
                .holds("Reads the bits.", ReadingTest::reads)
                .holds("Returns 0, or the error, 1 to 5.", ReadingTest::readReturns)
                .under("Promise 33: errorPosition")
                .holds("Returns the position of the error of the latest reading;", ReadingTest::latestError)
                .holds("-1 if it had none,", ReadingTest::noError)
                .holds("or there was no reading.", ReadingTest::errorOfNoReading)
                .under("Promise 34: outputSize")
                .holds("Returns how many bytes the latest reading made;", ReadingTest::outputSize)
                .holds("0 if there was none.", ReadingTest::outputSizeOfNoReading)
                .under("Promise 35: output")
                .holds("Returns the byte there, 0 to 255.", ReadingTest::outputReturns)
                .holds("Throws `IndexOutOfBoundsException` if there is no such place", ReadingTest::outputThrows)
                .under("Promise 36: differences")
                .holds("Returns at how many places the text and what was read are different;", ReadingTest::differences)
                .holds("places at which only one of them has a byte are counted, too.", ReadingTest::onlyOneHasAByte);
    }

    /** The error, its position and the bytes that were made. */
    private static void look(Check c, String row, int error, int position, String output) {
        MatchCoder x = look(c, row, error, position);
        c.same("the output of " + row, Coders.outputOf(x), output);
    }

    private static MatchCoder look(Check c, String row, int error, int position) {
        MatchCoder x = Coders.bits(row);
        c.same("read() of " + row, x.read(), error);
        c.same("errorPosition() of " + row, x.errorPosition(), position);
        return x;
    }

    private static void lookAtSize(Check c, String row, int error, int position, int size) {
        c.same("outputSize() of " + row, look(c, row, error, position).outputSize(), size);
    }

    private static void readsAll(Check c) {
        look(c, "", 0, -1, "");
        look(c, A, 0, -1, "1");
        look(c, A + B + Coders.match(2, 2) + B + Coders.again(1), 0, -1, "1 2 1 2 2 2");
        lookAtSize(c, A.repeat(88), 0, -1, 88);
        lookAtSize(c, A + Coders.match(1, 2) + Coders.again(1).repeat(197), 0, -1, 200);
        lookAtSize(c, A.repeat(88) + "11111111", 4, 792, 88);
    }

    private static void endsWithTheFirst(Check c) {
        look(c, A + Coders.match(2, 2) + B, 3, 9, "1");
        look(c, Coders.again(1) + A + B, 4, 0, "");
        look(c, Coders.again(1) + Coders.match(9, 2), 4, 0, "");
        look(c, A + Coders.match(9, 2) + Coders.again(1), 3, 9, "1");
        look(c, A + "10" + "00000000" + B, 2, 9, "1");
        lookAtSize(c, FULL + A + Coders.match(255, 2), 5, 27, 200);
    }

    private static void keepsWhatWasMade(Check c) {
        look(c, A + B + "0000000", 1, 18, "1 2");
        look(c, A + B + "10" + "1" + "00000000", 2, 18, "1 2");
        look(c, A + B + Coders.match(3, 9), 3, 18, "1 2");
        look(c, A + B + Coders.again(5), 4, 18, "1 2");
        lookAtSize(c, A + B + Coders.match(2, 199), 5, 18, 2);
        lookAtSize(c, NEARLY_FULL + Coders.match(1, 2), 5, 27, 199);
        look(c, "0", 1, 0, "");
    }

    private static void positions(Check c) {
        look(c, "1", 1, 0, "");
        look(c, A + "1", 1, 9, "1");
        look(c, A + Coders.match(1, 2) + "01111111", 1, 13, "1 1 1");
        look(c, A + Coders.match(1, 2) + "11" + "00000000", 2, 13, "1 1 1");
        look(c, A + Coders.match(1, 2) + Coders.again(1) + Coders.match(5, 2), 3, 16, "1 1 1 1");
        look(c, A + B + Coders.again(7), 4, 18, "1 2");
        lookAtSize(c, FULL + A, 5, 27, 200);
        lookAtSize(c, A.repeat(88) + "01111111", 1, 792, 88);
    }

    /** Every beginning of a row of all kinds, and of the longest numbers. */
    private static void ended(Check c) {
        String match = A + Coders.match(1, 5);
        String whole = match + Coders.again(6);
        for (int count = 1; count < whole.length(); count++) {
            String row = whole.substring(0, count);
            if (count < 9) {
                look(c, row, 1, 0, "");
            } else if (count == 9) {
                look(c, row, 0, -1, "1");
            } else if (count < match.length()) {
                look(c, row, 1, 9, "1");
            } else if (count == match.length()) {
                look(c, row, 0, -1, "1 1 1 1 1 1");
            } else {
                look(c, row, 1, match.length(), "1 1 1 1 1 1");
            }
        }
        String numbers = A + Coders.match(255, 256);
        for (int count = 10; count < numbers.length(); count++) {
            look(c, numbers.substring(0, count), 1, 9, "1");
        }
        look(c, A + Coders.match(1, 2) + Coders.again(255).substring(0, 16), 1, 13, "1 1 1");
    }

    private static void moreThanSeven(Check c) {
        String seven = "0000000" + "10000000";
        String eight = "00000000" + "100000000";
        lookAtSize(c, A + "10" + "1" + seven, 0, -1, 130);
        look(c, A + "10" + "1" + eight, 2, 9, "1");
        look(c, A + "10" + seven + "1", 3, 9, "1");
        look(c, A + "10" + eight + "1", 2, 9, "1");
        lookAtSize(c, A + Coders.match(1, 2) + "11" + seven, 0, -1, 131);
        look(c, A + Coders.match(1, 2) + "11" + eight, 2, 13, "1 1 1");
    }

    private static void asSoonAsTheEighth(Check c) {
        look(c, A + "10" + "0000000", 1, 9, "1");
        look(c, A + "10" + "00000000", 2, 9, "1");
        look(c, A + "10" + "1" + "0000000", 1, 9, "1");
        look(c, A + "10" + "1" + "00000000", 2, 9, "1");
        look(c, "11" + "0000000", 1, 0, "");
        look(c, "11" + "00000000", 2, 0, "");
        look(c, "11" + "000000000000", 2, 0, "");
        look(c, A + "10" + "00000000" + "1", 2, 9, "1");
    }

    private static void tooFar(Check c) {
        look(c, Coders.match(1, 2), 3, 0, "");
        look(c, A + Coders.match(1, 2), 0, -1, "1 1 1");
        look(c, A + Coders.match(2, 2), 3, 9, "1");
        look(c, A + B + Coders.match(2, 2), 0, -1, "1 2 1 2");
        look(c, A + B + Coders.match(3, 2), 3, 18, "1 2");
        String made198 = A + Coders.match(1, 197);
        lookAtSize(c, made198 + Coders.match(198, 2), 0, -1, 200);
        lookAtSize(c, made198 + Coders.match(199, 2), 3, 27, 198);
        look(c, A + Coders.match(255, 2), 3, 9, "1");
    }

    private static void noDistance(Check c) {
        look(c, Coders.again(1), 4, 0, "");
        look(c, A + Coders.again(1), 4, 9, "1");
        look(c, A + Coders.match(1, 2) + Coders.again(1), 0, -1, "1 1 1 1");
        look(c, A + B + A + Coders.again(3), 4, 27, "1 2 1");
        MatchCoder x = Coders.bits(A + Coders.match(1, 2));
        x.read();
        x.cutBits(4);
        x.appendBits(7, 3);
        c.same("read() where the reading before had a distance", x.read(), 4);
    }

    private static void tooLong(Check c) {
        lookAtSize(c, FULL, 0, -1, 200);
        lookAtSize(c, A + Coders.match(1, 200), 5, 9, 1);
        lookAtSize(c, NEARLY_FULL + A, 0, -1, 200);
        lookAtSize(c, FULL + A, 5, 27, 200);
        lookAtSize(c, NEARLY_FULL + Coders.again(1), 0, -1, 200);
        lookAtSize(c, NEARLY_FULL + Coders.again(2), 5, 27, 199);
        lookAtSize(c, FULL + Coders.again(1), 5, 27, 200);
        lookAtSize(c, FULL + Coders.match(200, 2), 5, 27, 200);
        lookAtSize(c, A + Coders.match(1, 256), 5, 9, 1);
        lookAtSize(c, A + Coders.match(1, 2) + Coders.again(197), 0, -1, 200);
        lookAtSize(c, A + Coders.match(1, 2) + Coders.again(198), 5, 13, 3);
        lookAtSize(c, A + Coders.match(1, 2) + Coders.again(255), 5, 13, 3);
    }

    private static void asAWhole(Check c) {
        look(c, "10" + "011" + "00000000", 2, 0, "");
        look(c, "10" + "011" + "0000000", 1, 0, "");
        look(c, "10" + "011", 1, 0, "");
        look(c, A + "11" + "01", 1, 9, "1");
        look(c, A + "11", 1, 9, "1");
        look(c, A + "11" + "00000000", 2, 9, "1");
        lookAtSize(c, FULL + "00000000", 1, 27, 200);
        lookAtSize(c, FULL + "10" + "1", 1, 27, 200);
        lookAtSize(c, FULL + "11" + "00000000", 2, 27, 200);
    }

    private static void inOrder(Check c) {
        lookAtSize(c, NEARLY_FULL + Coders.match(201, 50), 3, 27, 199);
        lookAtSize(c, FULL + Coders.match(201, 2), 3, 27, 200);
        look(c, A + Coders.match(255, 256), 3, 9, "1");
        look(c, A + Coders.again(255), 4, 9, "1");
        look(c, Coders.again(201), 4, 0, "");
    }

    /** Nor do the settings matter. */
    private static void others(Check c) {
        MatchCoder x = Coders.bits(A + B + Coders.match(2, 2) + Coders.again(1));
        x.setLengths(6, 6);
        x.setWindow(1);
        c.same("read() of a far and short one", x.read(), 0);
        c.same("its output", Coders.outputOf(x), "1 2 1 2 1");
        lookAtSize(c, A + Coders.match(1, 99) + Coders.match(100, 100), 0, -1, 200);
        lookAtSize(c, A + Coders.match(1, 65) + Coders.again(65), 0, -1, 131);
        lookAtSize(c, A + B.repeat(64) + Coders.match(65, 65), 0, -1, 130);
        lookAtSize(c, A + Coders.match(1, 128) + Coders.match(128, 70) + Coders.again(1), 0, -1, 200);
        MatchCoder y = Coders.bits(A + Coders.match(1, 120) + B + Coders.match(122, 2));
        c.same("read() of the distance 122", y.read(), 0);
        c.same("the byte so far ahead", y.output(122), 1);
    }

    // ---- promises

    private static void reads(Check c) {
        MatchCoder x = Coders.text("abcdefghabcXefgh");
        x.best();
        x.write();
        String tokens = Coders.tokensOf(x);
        String row = Coders.bitsOf(x);
        x.read();
        c.same("the text behind read", Coders.bytesOf(x), "abcdefghabcXefgh");
        c.same("the plan behind read", Coders.tokensOf(x), tokens);
        c.same("the bits behind read", Coders.bitsOf(x), row);
        for (String text : new String[] {"", "a", "aaabaaaaa", "a".repeat(64), Coders.different(64)}) {
            for (Coders.Way way : Coders.Way.values()) {
                MatchCoder y = Coders.text(text, 2, 64);
                way.choose(y);
                y.write();
                c.same("read() of what was written", y.read(), 0);
                c.same("outputSize() of it", y.outputSize(), text.length());
                c.same("differences() of it", y.differences(), 0);
            }
        }
    }

    private static void readReturns(Check c) {
        String[] rows = {A, A + "1", "1100000000", Coders.match(1, 2), Coders.again(1), FULL + A};
        for (int error = 0; error <= 5; error++) {
            MatchCoder x = Coders.bits(rows[error]);
            c.same("read() of the error " + error, x.read(), error);
            c.same("read() of it again", x.read(), error);
        }
        c.same("read() of no bits", new MatchCoder().read(), 0);
    }

    private static void latestError(Check c) {
        MatchCoder x = Coders.bits(A + "1");
        x.read();
        c.same("errorPosition()", x.errorPosition(), 9);
        x.appendBits(0, 12);
        c.same("errorPosition() until the next reading", x.errorPosition(), 9);
        x.cutBits(21);
        x.appendBits(1, 1);
        x.read();
        c.same("errorPosition() behind the next one", x.errorPosition(), 0);
        c.same("errorPosition() that is the last bit", look(c, A + "0", 1, 9).errorPosition(), 9);
        MatchCoder last = Coders.bits(Coders.literal(0).repeat(88) + "11111110");
        last.read();
        c.same("errorPosition() near the end of 800 bits", last.errorPosition(), 792);
    }

    private static void noError(Check c) {
        MatchCoder x = new MatchCoder();
        x.read();
        c.same("errorPosition() of no bits", x.errorPosition(), -1);
        x.appendBits(1, 1);
        x.read();
        x.cutBits(1);
        c.same("errorPosition() of an error", x.errorPosition(), 0);
        x.read();
        c.same("errorPosition() behind it, of none", x.errorPosition(), -1);
        lookAtSize(c, FULL, 0, -1, 200);
    }

    private static void errorOfNoReading(Check c) {
        c.same("errorPosition() of a new object", new MatchCoder().errorPosition(), -1);
        c.same("errorPosition() of bits that were not read", Coders.bits("1").errorPosition(), -1);
        MatchCoder x = Coders.text("a");
        x.best();
        x.write();
        c.same("errorPosition() of bits that were written", x.errorPosition(), -1);
    }

    private static void outputSize(Check c) {
        MatchCoder x = Coders.bits(A + B);
        x.read();
        c.same("outputSize()", x.outputSize(), 2);
        x.cutBits(18);
        c.same("outputSize() until the next reading", x.outputSize(), 2);
        x.read();
        c.same("outputSize() of no bits", x.outputSize(), 0);
        lookAtSize(c, FULL, 0, -1, 200);
        lookAtSize(c, FULL + A, 5, 27, 200);
        lookAtSize(c, A, 0, -1, 1);
        x.appendBits(1, 1);
        x.read();
        c.same("outputSize() of an error at first", x.outputSize(), 0);
    }

    private static void outputSizeOfNoReading(Check c) {
        c.same("outputSize() of a new object", new MatchCoder().outputSize(), 0);
        c.same("outputSize() of bits that were not read", Coders.bits(A).outputSize(), 0);
        MatchCoder x = Coders.text("a");
        x.best();
        x.write();
        c.same("outputSize() of bits that were written", x.outputSize(), 0);
    }

    private static void outputReturns(Check c) {
        for (int first = 0; first <= 192; first += 64) {
            StringBuilder row = new StringBuilder();
            for (int k = 0; k < 64; k++) {
                row.append(Coders.literal(first + k));
            }
            MatchCoder x = look(c, row.toString(), 0, -1);
            for (int k = 0; k < 64; k++) {
                c.same("output(" + k + ")", x.output(k), first + k);
            }
        }
        MatchCoder y = look(c, NEARLY_FULL + Coders.literal(255), 0, -1);
        c.same("output(0) of 200", y.output(0), 1);
        c.same("output(198) of 200", y.output(198), 1);
        c.same("output(199) of 200", y.output(199), 255);
    }

    private static void outputThrows(Check c) {
        c.refuses("output(0) of a new object", MatchCoder::new, Check.INDEX, x -> x.output(0));
        c.refuses("output(0) of bits that were not read", () -> Coders.bits(A), Check.INDEX, x -> x.output(0));
        c.range("output of 12", Coders::middle, 0, 11, Check.INDEX, MatchCoder::output);
        c.range("output of 200", Coders::full, 0, 199, Check.INDEX, MatchCoder::output);
        MatchCoder y = Coders.full();
        y.cutBits(800);
        y.appendBits(0, 9);
        y.read();
        c.same("output(0) of one byte", y.output(0), 0);
        c.same("output(1) of one byte", Check.outcome(() -> y.output(1)), "throws.IndexOutOfBoundsException");
    }

    private static MatchCoder readOf(String text) {
        MatchCoder x = Coders.text(text);
        x.best();
        x.write();
        x.read();
        return x;
    }

    private static void differences(Check c) {
        c.same("differences() of nothing", new MatchCoder().differences(), 0);
        MatchCoder x = readOf("abc");
        c.same("differences() of the same", x.differences(), 0);
        x.set(0, 'A');
        c.same("differences() of the first byte", x.differences(), 1);
        x.set(2, 'C');
        c.same("differences() of the last byte, too", x.differences(), 2);
        x.set(1, 'B');
        c.same("differences() of all", x.differences(), 3);
        x.read();
        x.set(1, 'b');
        c.same("differences() of two", x.differences(), 2);
        MatchCoder full = readOf(Coders.different(64));
        c.same("differences() of 64 bytes", full.differences(), 0);
        full.set(63, 0);
        c.same("differences() of the last of them", full.differences(), 1);
    }

    private static void onlyOneHasAByte(Check c) {
        c.same("differences() without a reading", Coders.text("\0\0\0").differences(), 3);
        c.same("differences() of a full text without a reading", Coders.filled(0, 64).differences(), 64);
        MatchCoder x = readOf("abc");
        x.feed(0L, 1);
        c.same("differences() of a longer text", x.differences(), 1);
        x.cut(2);
        c.same("differences() of a shorter text", x.differences(), 1);
        x.cut(2);
        c.same("differences() of no text", x.differences(), 3);
        x.fill(0, 1);
        c.same("differences() of a shorter and another text", x.differences(), 3);
        MatchCoder most = Coders.bits(FULL);
        most.read();
        c.same("differences() of 200 bytes and no text", most.differences(), 200);
        most.fill(1, 64);
        c.same("differences() of 200 bytes and 64 of them", most.differences(), 136);
        most.cut(64);
        most.fill(2, 64);
        c.same("differences() of 200 bytes and 64 others", most.differences(), 200);
    }
}
