/** What the description says of tokens and their bits, sentence by sentence. */
public final class TokensTest {
    private static final String A = Coders.literal(1);
    private static final String B = Coders.literal(2);

    public static void main(String[] args) {
        sentences().run();
    }

    static Sentences sentences() {
        return new Sentences("TokensTest")
                .under("Description")
                .holds("Tokens. A text is made by tokens, one after the other. What was made so far is the text up to some"
                        + " place.", TokensTest::oneAfterTheOther)
                .holds("0 LITERAL of a byte: it makes this byte.", TokensTest::literalMakes)
                .holds("1 MATCH of a distance d and a length l: it makes l bytes, one after the other, each of which is"
                        + " the byte d places ahead of it.", TokensTest::matchMakes)
                .holds("2 AGAIN of a length l: the same as a MATCH with the present distance.", TokensTest::againMakes)
                .holds("The present distance is 0 at first;", TokensTest::presentAtFirst)
                .holds("a MATCH makes its distance the present one;", TokensTest::matchMakesPresent)
                .holds("the others leave it as it is.", TokensTest::othersLeavePresent)
                .holds("In plans, d is from 1 to the window,", TokensTest::distancesOfPlans)
                .holds("and not greater than the number of bytes that were made ahead of the token;", TokensTest::notTooFar)
                .holds("l of a MATCH is from the least", TokensTest::leastMatch)
                .holds("to the greatest length;", TokensTest::greatestMatch)
                .holds("l of an AGAIN is from 1", TokensTest::leastAgain)
                .holds("to the greatest length,", TokensTest::greatestAgain)
                .holds("and it can only stand where the present distance is not 0", TokensTest::againNeedsPresent)
                .holds("(and, of course, makes the bytes of the text).", TokensTest::againMakesTheText)
                .holds("Bits. A number n of 1 or more is written as follows: as many bits 0 as there are bits behind the"
                        + " highest one in its binary form, then this form, from the highest bit on",
                        TokensTest::numbersAreWritten)
                .holds("(so 1 is written 1, 2 is 010, 3 is 011, 4 is 00100).", TokensTest::firstNumbers)
                .holds("A LITERAL is written as the bit 0, then the eight bits of its byte, the highest one first.",
                        TokensTest::literalIsWritten)
                .holds("A MATCH is written as the bits 1 and 0, then the number d, then the number l - 1.",
                        TokensTest::matchIsWritten)
                .holds("An AGAIN is written as the bits 1 and 1, then the number l.", TokensTest::againIsWritten)
                .holds("The cost of a token is the number of its bits plus the price of a token.", TokensTest::costs);
    }

    private static String read(String row) {
        MatchCoder x = Coders.bits(row);
        return x.read() + ": " + Coders.outputOf(x);
    }

    private static void allWays(Check c, String what, String text, int least, int greatest, String due) {
        for (Coders.Way way : Coders.Way.values()) {
            c.same(way + " of " + what, Coders.tokensOf(way, Coders.text(text, least, greatest)), due);
        }
    }

    private static String literals(int many) {
        return "L ".repeat(many);
    }

    private static void oneAfterTheOther(Check c) {
        String[] texts = {"a", "aa", "a".repeat(64), Coders.different(64), Coders.repeating(7, 57), "abcdefghabcXefgh"};
        for (String text : texts) {
            for (Coders.Way way : Coders.Way.values()) {
                MatchCoder x = Coders.text(text);
                way.choose(x);
                int place = 0;
                for (int token = 0; token < x.tokenCount(); token++) {
                    c.same("start(" + token + ") of " + text, x.start(token), place);
                    place += x.length(token);
                }
                c.same("the end of the last token of " + text, place, text.length());
            }
        }
    }

    private static void literalMakes(Check c) {
        c.same("a literal 0", read(Coders.literal(0)), "0: 0");
        c.same("a literal 255", read(Coders.literal(255)), "0: 255");
        c.same("two literals", read(Coders.literal(128) + Coders.literal(127)), "0: 128 127");
        MatchCoder x = Coders.text("q");
        x.best();
        c.same("the kind of a literal", x.kind(0), 0);
        c.same("the length of a literal", x.length(0), 1);
    }

    /** Also bytes that the same token has made. */
    private static void matchMakes(Check c) {
        c.same("the nearest and shortest", read(A + B + Coders.match(1, 2)), "0: 1 2 2 2");
        c.same("as long as far", read(A + B + Coders.match(2, 2)), "0: 1 2 1 2");
        c.same("longer than far", read(A + B + Coders.match(2, 5)), "0: 1 2 1 2 1 2 1");
        c.same("shorter than far", read(A + B + B + Coders.match(3, 2)), "0: 1 2 2 1 2");
    }

    private static void againMakes(Check c) {
        for (int length = 1; length <= 9; length++) {
            String again = read(A + B + Coders.match(2, 3) + Coders.again(length));
            c.same("AGAIN of " + length, again, "0: 1 2 1 2 1" + " 2 1".repeat(5).substring(0, 2 * length));
            if (length >= 2) {
                c.same("MATCH of " + length, read(A + B + Coders.match(2, 3) + Coders.match(2, length)), again);
            }
        }
    }

    private static void presentAtFirst(Check c) {
        c.same("AGAIN at first", read(Coders.again(1)), "4: ");
        c.same("AGAIN behind literals", read(A + B + Coders.again(1)), "4: 1 2");
        MatchCoder x = Coders.bits(A + Coders.match(1, 2));
        x.read();
        x.cutBits(4);
        x.appendBits(7, 3);
        c.same("AGAIN where the reading before had a distance", x.read(), 4);
        allWays(c, "equal bytes", "aaaaa", 2, 64, "L M4,1");
        MatchCoder y = Coders.text("aaaaaaaa", 2, 3);
        for (Coders.Way way : Coders.Way.values()) {
            String first = Coders.tokensOf(way, y);
            c.same(way + " a second time", Coders.tokensOf(way, y), first);
        }
    }

    private static void matchMakesPresent(Check c) {
        c.same("AGAIN behind a MATCH", read(A + B + Coders.match(2, 2) + Coders.again(2)), "0: 1 2 1 2 1 2");
        c.same("AGAIN behind a nearer MATCH", read(A + B + Coders.match(2, 3) + Coders.match(1, 2) + Coders.again(1)),
                "0: 1 2 1 2 1 1 1 1");
        c.same("and a LITERAL", read(A + B + Coders.match(2, 2) + Coders.match(1, 2) + A + Coders.again(1)),
                "0: 1 2 1 2 2 2 1 1");
        c.same("AGAIN behind a farther MATCH", read(A + B + Coders.match(1, 2) + Coders.match(4, 3) + Coders.again(2)),
                "0: 1 2 2 2 1 2 2 2 1");
        allWays(c, "two distances", "abcabcxyzuvwxyz!vw", 3, 64, "L L L M3,3 L L L L L L M3,6 L A2,6");
    }

    private static void othersLeavePresent(Check c) {
        c.same("AGAIN behind a LITERAL", read(A + B + Coders.match(2, 2) + A + Coders.again(3)), "0: 1 2 1 2 1 2 1 2");
        c.same("AGAIN behind two", read(A + B + Coders.match(2, 2) + A + A + Coders.again(1)), "0: 1 2 1 2 1 1 1");
        c.same("AGAIN behind an AGAIN", read(A + B + Coders.match(2, 2) + Coders.again(1) + Coders.again(2)),
                "0: 1 2 1 2 1 2 1");
        allWays(c, "a text with one byte changed", "abcdefghabcXefgh", 3, 64, literals(8) + "M3,8 L A4,8");
        allWays(c, "a text with two bytes changed", "abcdefghabcXefYhab", 3, 64, literals(8) + "M3,8 L A2,8 L A3,8");
    }

    private static void distancesOfPlans(Check c) {
        allWays(c, "the distance 1", "aaaaaaa", 6, 6, "L M6,1");
        for (int window = 2; window <= 58; window++) {
            for (Coders.Way way : Coders.Way.values()) {
                MatchCoder x = Coders.text(Coders.repeating(window, 6));
                x.setWindow(window);
                c.same(way + " in the window " + window, Coders.tokensOf(way, x), literals(window) + "M6," + window);
                x.setWindow(window - 1);
                c.same(way + " one beyond the window", Coders.tokensOf(way, x), literals(window + 6).trim());
            }
        }
    }

    /** Bytes 0 ahead of the text would make a match of a text that begins with them. */
    private static void notTooFar(Check c) {
        allWays(c, "bytes 0", "\0\0\0\0\0", 2, 64, "L M4,1");
        allWays(c, "all that was made", "abcdabcd", 2, 64, "L L L L M4,4");
        MatchCoder x = Coders.text("aaaaaaaa");
        x.cut(8);
        x.feed(0x6161L, 2);
        x.setLengths(2, 64);
        c.same("a text where another one was", Coders.tokensOf(Coders.Way.BEST, x), "L L");
    }

    private static void leastMatch(Check c) {
        for (int least = 2; least <= 6; least++) {
            String first = Coders.different(8);
            allWays(c, "just the least length " + least, first + first.substring(0, least) + "!", least, 64,
                    literals(8) + "M" + least + ",8 L");
            allWays(c, "one less than " + least, first + first.substring(0, least - 1) + "!", least, 64,
                    literals(8 + least).trim());
        }
    }

    private static void greatestMatch(Check c) {
        for (int greatest = 2; greatest <= 62; greatest++) {
            String just = Coders.repeating(1, greatest);
            c.same("GREEDY of just the greatest length " + greatest,
                    Coders.tokensOf(Coders.Way.GREEDY, Coders.text(just, 2, greatest)), "L M" + greatest + ",1");
            c.same("LAZY of one more than " + greatest,
                    Coders.tokensOf(Coders.Way.LAZY, Coders.text(just + just.charAt(0), 2, greatest)),
                    "L M" + greatest + ",1 A1,1");
        }
        allWays(c, "the longest match that there is", "a".repeat(64), 2, 64, "L M63,1");
        allWays(c, "the greatest length", Coders.repeating(9, 5), 5, 5, literals(9) + "M5,9");
        allWays(c, "one more than the greatest length", Coders.repeating(9, 6), 5, 5, literals(9) + "M5,9 A1,9");
    }

    /** Whatever the least length of a MATCH is. */
    private static void leastAgain(Check c) {
        for (int least = 2; least <= 6; least++) {
            allWays(c, "an AGAIN of 1", Coders.repeating(9, least + 1), least, least,
                    literals(9) + "M" + least + ",9 A1,9");
        }
    }

    private static void greatestAgain(Check c) {
        allWays(c, "an AGAIN of 4", "abcabcabcabc", 3, 4, "L L L M4,3 A4,3 A1,3");
        c.same("BEST with an AGAIN of 5", Coders.tokensOf(Coders.Way.BEST, Coders.text("abcabcabcabc", 3, 5)),
                "L L L M4,3 A5,3");
        allWays(c, "an AGAIN of 6", Coders.repeating(9, 12), 6, 6, literals(9) + "M6,9 A6,9");
        allWays(c, "one more", Coders.repeating(9, 13), 6, 6, literals(9) + "M6,9 A6,9 A1,9");
        c.same("GREEDY with the longest AGAIN that there is", Coders.tokensOf(Coders.Way.GREEDY, longAgain(59)),
                "L L M2,2 L A59,2");
    }

    /** A match of 2, a byte changed, and the same distance for as long as is asked. */
    private static MatchCoder longAgain(int length) {
        return Coders.text("ababX" + "bX".repeat(30).substring(0, length), 2, 64);
    }

    private static void againNeedsPresent(Check c) {
        allWays(c, "two equal bytes", "aa", 2, 64, "L L");
        allWays(c, "three equal bytes", "aaa", 3, 64, "L L L");
        allWays(c, "a MATCH first", "aaa", 2, 64, "L M2,1");
        allWays(c, "no distance at all", "abaXbaYbbZaa", 6, 64, literals(12).trim());
        allWays(c, "different bytes", Coders.different(64), 2, 64, literals(64).trim());
    }

    private static void againMakesTheText(Check c) {
        allWays(c, "a byte that is the same behind the AGAIN", "abcdefghabcXefghab", 3, 64,
                literals(8) + "M3,8 L A6,8");
        allWays(c, "a byte that is another one behind the AGAIN", "abcdefghabcXefghYb", 3, 64,
                literals(8) + "M3,8 L A4,8 L A1,8");
        allWays(c, "no AGAIN where the first byte is another one", "abcdefghabcXY", 3, 64, literals(8) + "M3,8 L L");
    }

    private static String written(Coders.Way way, MatchCoder x) {
        way.choose(x);
        x.write();
        return Coders.bitsOf(x);
    }

    private static void numbersAreWritten(Check c) {
        int[] numbers = {1, 2, 3, 4, 7, 8, 15, 16, 31, 32, 62};
        String[] forms = {"1", "010", "011", "00100", "00111", "0001000", "0001111", "000010000", "000011111",
            "00000100000", "00000111110"};
        for (int k = 0; k < numbers.length; k++) {
            int n = numbers[k];
            String length = written(Coders.Way.GREEDY, Coders.text("a".repeat(n + 2), 2, 64));
            c.same(n + " as a length less one", length.substring(12), forms[k]);
            if (n >= 2) {
                MatchCoder x = Coders.text(Coders.repeating(n, 2), 2, 64);
                x.greedy();
                c.same("the number of bits with the distance " + n, x.write(), 9 * n + 2 + forms[k].length() + 1);
                for (int bit = 0; bit < forms[k].length(); bit++) {
                    c.same("a bit of the distance " + n, x.bit(9 * n + 2 + bit), forms[k].charAt(bit) - '0');
                }
            }
            if (n <= 59) {
                String again = written(Coders.Way.GREEDY, longAgain(n));
                c.same(n + " as the length of an AGAIN", again.substring(35), forms[k]);
            }
        }
    }

    private static void firstNumbers(Check c) {
        c.same("1", written(Coders.Way.BEST, Coders.text("aaa", 2, 64)).substring(9), "10" + "1" + "1");
        c.same("2", written(Coders.Way.BEST, Coders.text("aaaa", 2, 64)).substring(9), "10" + "1" + "010");
        c.same("3", written(Coders.Way.BEST, Coders.text("aaaaa", 2, 64)).substring(9), "10" + "1" + "011");
        c.same("4", written(Coders.Way.BEST, Coders.text("aaaaaa", 2, 64)).substring(9), "10" + "1" + "00100");
    }

    private static void literalIsWritten(Check c) {
        String[] bytes = {"\0", "\1", "\u0080", "\u007f", "\u00ff", "\u0096"};
        String[] forms = {"00000000", "00000001", "10000000", "01111111", "11111111", "10010110"};
        for (int k = 0; k < bytes.length; k++) {
            c.same("the bits of the byte " + forms[k], written(Coders.Way.BEST, Coders.text(bytes[k])), "0" + forms[k]);
        }
    }

    private static void matchIsWritten(Check c) {
        c.same("the nearest and shortest", written(Coders.Way.BEST, Coders.text("aaa", 2, 2)).substring(9), "1011");
        c.same("the longest", written(Coders.Way.BEST, Coders.filled('a', 64)).substring(9), "10" + "1" + "00000111110");
        c.same("distance first", written(Coders.Way.BEST, Coders.text("abcdabcdab")).substring(36),
                "10" + "00100" + "00101");
        MatchCoder x = Coders.text(Coders.repeating(62, 2), 2, 64);
        x.best();
        c.same("the number of bits of the farthest", x.write(), 62 * 9 + 2 + 11 + 1);
    }

    private static void againIsWritten(Check c) {
        c.same("the shortest", written(Coders.Way.BEST, Coders.text("abcabca", 3, 3)).substring(35), "11" + "1");
        c.same("two", written(Coders.Way.BEST, Coders.text("abcabcab", 3, 3)).substring(35), "11" + "010");
        c.same("the longest", written(Coders.Way.GREEDY, longAgain(59)).substring(33), "11" + "00000111011");
    }

    private static void costs(Check c) {
        for (int price : new int[] {0, 1, 30}) {
            for (Coders.Way way : Coders.Way.values()) {
                MatchCoder x = Coders.text("q");
                x.setPrice(price);
                c.same("a LITERAL with the price " + price, way.choose(x), 9 + price);
                MatchCoder y = Coders.text("aaa", 2, 2);
                y.setPrice(price);
                c.same("and a MATCH", way.choose(y), 9 + 4 + 2 * price);
                MatchCoder z = Coders.text("aaaaa", 3, 3);
                z.setPrice(price);
                c.same("and an AGAIN", way.choose(z), 9 + 6 + 3 + 3 * price);
            }
        }
    }
}
