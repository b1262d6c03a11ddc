/** Promises 32 to 36: read, errorPosition, outputSize, output, differences. */
public final class ReadingTest {
    private static final Check CHECK = new Check("ReadingTest");
    private static final Class<IndexOutOfBoundsException> INDEX = IndexOutOfBoundsException.class;
    private static final String BYTE_1 = "000000001";
    private static final String BYTE_2 = "000000010";

    public static void main(String[] args) {
        good();
        ended();
        tooManyZeros();
        tooFar();
        noDistance();
        tooLong();
        order();
        output();
        differences();
        whatIsWrittenIsRead();
        CHECK.end();
    }

    private static MatchCoder coder(String bits) {
        MatchCoder x = new MatchCoder();
        for (int index = 0; index < bits.length(); index += 16) {
            String part = bits.substring(index, Math.min(bits.length(), index + 16));
            x.appendBits(Integer.parseInt(part, 2), part.length());
        }
        return x;
    }

    private static MatchCoder look(String bits, int error, int position, int size) {
        MatchCoder x = coder(bits);
        CHECK.same("read() of " + bits, x.read(), error);
        CHECK.same("errorPosition() of " + bits, x.errorPosition(), position);
        CHECK.same("outputSize() of " + bits, x.outputSize(), size);
        return x;
    }

    private static String match(int distance, int length) {
        return "10" + Model.number(distance) + Model.number(length - 1);
    }

    private static String again(int length) {
        return "11" + Model.number(length);
    }

    private static String outputs(MatchCoder x) {
        StringBuilder all = new StringBuilder();
        for (int place = 0; place < x.outputSize(); place++) {
            all.append(x.output(place)).append(' ');
        }
        return all.toString();
    }

    private static void good() {
        look("", 0, -1, 0);
        CHECK.same("a literal", outputs(look("011111111", 0, -1, 1)), "255 ");
        CHECK.same("a match over itself", outputs(look(BYTE_1 + BYTE_2 + match(2, 5), 0, -1, 7)), "1 2 1 2 1 2 1 ");
        CHECK.same("an AGAIN", outputs(look(BYTE_1 + BYTE_2 + match(2, 2) + BYTE_1 + again(3), 0, -1, 8)),
                "1 2 1 2 1 2 1 2 ");
        CHECK.same("a match beyond the window and the lengths", look(BYTE_1 + match(1, 99) + match(100, 100), 0, -1, 200)
                .output(199), 1);
        look(BYTE_1 + match(1, 128) + match(128, 70) + again(1), 0, -1, 200);
    }

    private static void ended() {
        String whole = BYTE_1 + match(1, 5) + again(6);
        int first = BYTE_1.length();
        int second = first + match(1, 5).length();
        for (int count = 1; count < whole.length(); count++) {
            String bits = whole.substring(0, count);
            if (count < first) {
                look(bits, 1, 0, 0);
            } else if (count == first) {
                look(bits, 0, -1, 1);
            } else if (count < second) {
                look(bits, 1, first, 1);
            } else if (count == second) {
                look(bits, 0, -1, 6);
            } else {
                look(bits, 1, second, 6);
            }
        }
        look(BYTE_1 + "10" + "0000000", 1, 9, 1);
        look(BYTE_1 + "10" + "0000000" + "1000000", 1, 9, 1);
    }

    private static void tooManyZeros() {
        look(BYTE_1 + "10" + "00000000", 2, 9, 1);
        look(BYTE_1 + "10" + "00000000" + "1", 2, 9, 1);
        look(BYTE_1 + "10" + "1" + "00000000", 2, 9, 1);
        look("11" + "00000000", 2, 0, 0);
        look(BYTE_1 + match(1, 2) + "11" + "000000000000", 2, 13, 3);
        look("10" + "010" + "00000000", 2, 0, 0);
        look(BYTE_1 + "10" + "1" + "000000010000000", 0, -1, 130);
    }

    private static void tooFar() {
        look(match(1, 2), 3, 0, 0);
        look(BYTE_1 + match(2, 2), 3, 9, 1);
        look(BYTE_1 + match(255, 256), 3, 9, 1);
        look(BYTE_1 + BYTE_2 + match(2, 2), 0, -1, 4);
    }

    private static void noDistance() {
        look(again(1), 4, 0, 0);
        look(BYTE_1 + again(200), 4, 9, 1);
        look(BYTE_1 + "11" + "01", 1, 9, 1);
        MatchCoder x = coder(BYTE_1 + match(1, 2));
        x.read();
        x.cutBits(4);
        x.appendBits(7, 3);
        CHECK.same("the present distance is 0 again in each reading", x.read(), 4);
    }

    private static void tooLong() {
        look(BYTE_1 + match(1, 199), 0, -1, 200);
        look(BYTE_1 + match(1, 200), 5, 9, 1);
        String full = BYTE_1 + match(1, 199);
        look(full + BYTE_2, 5, full.length(), 200);
        look(full + again(1), 5, full.length(), 200);
        look(full + match(200, 2), 5, full.length(), 200);
        look(full + "00000000", 1, full.length(), 200);
        look(BYTE_1 + match(1, 198) + again(1), 0, -1, 200);
        look(BYTE_1 + match(1, 198) + again(2), 5, 9 + match(1, 198).length(), 199);
    }

    /** An earlier error of the same token hides the later one. */
    private static void order() {
        look(BYTE_1 + match(1, 198) + match(201, 50), 3, 9 + match(1, 198).length(), 199);
        look(again(255), 4, 0, 0);
        look("10" + "011" + "00000000", 2, 0, 0);
        look("10" + "011" + "0000000", 1, 0, 0);
        look("11" + "0000000", 1, 0, 0);
    }

    private static void output() {
        MatchCoder x = new MatchCoder();
        CHECK.refuses("output(0) ahead of a reading", x, INDEX, () -> x.output(0));
        x.appendBits(0xFF, 9);
        x.appendBits(0x01, 9);
        CHECK.same("read()", x.read(), 0);
        CHECK.same("output(0)", x.output(0), 255);
        CHECK.same("output(1)", x.output(1), 1);
        for (int place : new int[] {-1, 2, 199, 200, Integer.MIN_VALUE, Integer.MAX_VALUE}) {
            CHECK.refuses("output(" + place + ")", x, INDEX, () -> x.output(place));
        }
        x.cutBits(18);
        CHECK.same("outputSize() stays until the next reading", x.outputSize(), 2);
        CHECK.same("read() of none", x.read(), 0);
        CHECK.same("outputSize() then", x.outputSize(), 0);
        CHECK.refuses("output(0) behind a reading of nothing", x, INDEX, () -> x.output(0));
        x.appendBits(0, 1);
        CHECK.same("read() of half a token", x.read(), 1);
        CHECK.same("errorPosition()", x.errorPosition(), 0);
        x.cutBits(1);
        CHECK.same("errorPosition() stays until the next reading", x.errorPosition(), 0);
        x.read();
        CHECK.same("errorPosition() then", x.errorPosition(), -1);
    }

    private static void differences() {
        MatchCoder x = new MatchCoder();
        x.feed(0x010203L, 3);
        CHECK.same("differences() ahead of a reading", x.differences(), 3);
        x.best();
        x.write();
        x.read();
        CHECK.same("differences() of the same", x.differences(), 0);
        x.set(1, 9);
        CHECK.same("differences() of one byte", x.differences(), 1);
        x.fill(1, 2);
        CHECK.same("differences() of a longer text", x.differences(), 3);
        x.cut(4);
        CHECK.same("differences() of a shorter text", x.differences(), 2);
        x.cut(1);
        CHECK.same("differences() of no text", x.differences(), 3);
    }

    private static void whatIsWrittenIsRead() {
        for (int seed = 0; seed < 300; seed++) {
            Numbers numbers = new Numbers(seed);
            MatchCoder x = new MatchCoder();
            x.setLengths(2 + seed % 5, 6 + seed % 59);
            for (int left = numbers.between(0, 64); left > 0; left--) {
                x.feed(numbers.below(1 + seed % 7), 1);
            }
            for (int way = 0; way < 3; way++) {
                int cost = way == 0 ? x.best() : way == 1 ? x.greedy() : x.lazy();
                CHECK.same("write() of text " + seed, x.write(), cost);
                CHECK.same("read() of text " + seed, x.read(), 0);
                CHECK.same("differences() of text " + seed, x.differences(), 0);
            }
        }
    }
}
