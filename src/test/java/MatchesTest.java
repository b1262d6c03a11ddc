/** Promises 11 to 14, sentence by sentence. */
public final class MatchesTest {
    /** At 4 the distance 4 is the longest, at 7 the distance 7, at 11 the distances 4 and 7 and 11. */
    private static final String TEXT = "abcdabcabcdab";

    public static void main(String[] args) {
        sentences().run();
    }

    static Sentences sentences() {
        return new Sentences("MatchesTest")
                .under("Promise 11: longest")
                .holds("Returns the length of the longest MATCH that can stand there, when all bytes ahead of the place"
                        + " were made;", MatchesTest::longestReturns)
                .holds("0 if none can.", MatchesTest::longestNone)
                .holds("Throws `IndexOutOfBoundsException` if there is no such place", MatchesTest::longestPlace)
                .under("Promise 12: nearest")
                .holds("Returns the smallest distance of a MATCH there with the length that longest tells;",
                        MatchesTest::nearestReturns)
                .holds("0 if none can stand there.", MatchesTest::nearestNone)
                .holds("Throws `IndexOutOfBoundsException` if there is no such place", MatchesTest::nearestPlace)
                .under("Promise 13: common")
                .holds("Returns for how many bytes from the place on each one is the byte that is this distance ahead"
                        + " of it.", MatchesTest::commonReturns)
                .holds("Throws `IndexOutOfBoundsException` if there is no such place", MatchesTest::commonPlace)
                .holds("Throws `IllegalArgumentException` if distance is not 1 to 64,", MatchesTest::commonDistance)
                .holds("or greater than the place", MatchesTest::commonTooFar)
                .under("Promise 14: widthOf")
                .holds("Returns how many bits it is written with.", MatchesTest::widthOfReturns)
                .holds("Throws `IllegalArgumentException` if n is not 1 to 255", MatchesTest::widthOfThrows);
    }

    private static void longestReturns(Check c) {
        MatchCoder x = Coders.text(TEXT);
        c.same("longest(4)", x.longest(4), 3);
        c.same("longest(7), up to the end", x.longest(7), 6);
        x.setLengths(2, 6);
        c.same("longest(7) with the greatest 6", x.longest(7), 6);
        c.same("longest(11) with the least 2", x.longest(11), 2);
        x.setLengths(2, 5);
        c.same("longest(7) with the greatest 5", x.longest(7), 5);
        x.setWindow(6);
        c.same("longest(7) in the window 6", x.longest(7), 3);
        x.setWindow(7);
        c.same("longest(7) in the window 7", x.longest(7), 5);
        c.same("longest(1) of 64 equal bytes", Coders.filled(3, 64).longest(1), 63);
        c.same("longest(61) of 64 equal bytes", Coders.filled(3, 64).longest(61), 3);
        c.same("longest(1) of two equal bytes", Coders.text("aa", 2, 2).longest(1), 0);
        c.same("longest(1) of three equal bytes", Coders.text("aaa", 2, 2).longest(1), 2);
        MatchCoder y = Coders.text("aaaaa");
        y.best();
        c.same("longest(3) inside a token of the plan", Coders.text("aaaaaa").longest(3), 3);
        c.same("longest(2) inside a token of the plan", y.longest(2), 3);
    }

    private static void longestNone(Check c) {
        c.same("longest(0) of one byte", Coders.text("\0").longest(0), 0);
        c.same("longest(0) of 64 bytes 0", Coders.filled(0, 64).longest(0), 0);
        c.same("longest(63) of 64 equal bytes", Coders.text("a".repeat(64), 2, 64).longest(63), 0);
        c.same("longest(62) of 64 equal bytes", Coders.filled('a', 64).longest(62), 0);
        c.same("longest(3) of a first byte", Coders.text(TEXT).longest(3), 0);
        c.same("longest(11) under the least length", Coders.text(TEXT).longest(11), 0);
        MatchCoder x = Coders.text(TEXT);
        x.setWindow(3);
        c.same("longest(4) in the window 3", x.longest(4), 0);
        for (int least = 2; least <= 6; least++) {
            String text = Coders.different(9) + Coders.different(9).substring(0, least - 1) + "!";
            c.same("longest(9) of one less than " + least, Coders.text(text, least, 64).longest(9), 0);
        }
    }

    private static void longestPlace(Check c) {
        c.refuses("longest(0) of an empty text", MatchCoder::new, Check.INDEX, x -> x.longest(0));
        c.range("longest(place) of 16", Coders::middle, 0, 15, Check.INDEX, MatchCoder::longest);
        c.range("longest(place) of 64", Coders::full, 0, 63, Check.INDEX, MatchCoder::longest);
    }

    private static void nearestReturns(Check c) {
        MatchCoder x = Coders.text(TEXT);
        c.same("nearest(4), all that is ahead", x.nearest(4), 4);
        c.same("nearest(7), farther for a longer one", x.nearest(7), 7);
        x.setLengths(2, 64);
        c.same("nearest(11), of three the nearest", x.nearest(11), 4);
        x.setLengths(2, 4);
        c.same("nearest(7) with the greatest 4", x.nearest(7), 7);
        x.setLengths(2, 3);
        c.same("nearest(7) with the greatest 3", x.nearest(7), 3);
        c.same("nearest(1) of equal bytes", Coders.filled(0, 64).nearest(1), 1);
        c.same("nearest(61) of equal bytes", Coders.filled(0, 64).nearest(61), 1);
        c.same("nearest(62) of the farthest match", Coders.text(Coders.repeating(62, 2), 2, 64).nearest(62), 62);
    }

    private static void nearestNone(Check c) {
        c.same("nearest(0) of one byte", Coders.text("\0").nearest(0), 0);
        c.same("nearest(0) of 64 bytes 0", Coders.filled(0, 64).nearest(0), 0);
        c.same("nearest(63) of 64 equal bytes", Coders.text("a".repeat(64), 2, 64).nearest(63), 0);
        c.same("nearest(3) of a first byte", Coders.text(TEXT).nearest(3), 0);
        c.same("nearest(11) under the least length", Coders.text(TEXT).nearest(11), 0);
        MatchCoder x = Coders.text(TEXT);
        x.setWindow(3);
        c.same("nearest(4) in the window 3", x.nearest(4), 0);
    }

    private static void nearestPlace(Check c) {
        c.refuses("nearest(0) of an empty text", MatchCoder::new, Check.INDEX, x -> x.nearest(0));
        c.range("nearest(place) of 16", Coders::middle, 0, 15, Check.INDEX, MatchCoder::nearest);
        c.range("nearest(place) of 64", Coders::full, 0, 63, Check.INDEX, MatchCoder::nearest);
    }

    /** Neither the window nor the lengths matter. */
    private static void commonReturns(Check c) {
        MatchCoder x = Coders.text("ababababca", 6, 6);
        x.setWindow(1);
        c.same("common(2, 2)", x.common(2, 2), 6);
        c.same("common(7, 2), one byte", x.common(7, 2), 1);
        c.same("common(8, 2), none", x.common(8, 2), 0);
        c.same("common(1, 1), none", x.common(1, 1), 0);
        c.same("common(9, 9), the last byte", x.common(9, 9), 1);
        c.same("common(4, 4)", x.common(4, 4), 4);
        MatchCoder y = Coders.text("a".repeat(64), 2, 2);
        c.same("common(1, 1) of 64 equal bytes", y.common(1, 1), 63);
        c.same("common(63, 63) of 64 equal bytes", y.common(63, 63), 1);
        c.same("common(63, 1) of 64 equal bytes", y.common(63, 1), 1);
    }

    private static void commonPlace(Check c) {
        c.refuses("common(0, 1) of an empty text", MatchCoder::new, Check.INDEX, x -> x.common(0, 1));
        c.refuses("common(1, 1) of one byte", () -> Coders.text("a"), Check.INDEX, x -> x.common(1, 1));
        for (int place : new int[] {-1, 16, 64, -65535, 65537, Integer.MIN_VALUE, Integer.MAX_VALUE}) {
            c.refuses("common(" + place + ", 1) of 16", Coders::middle, Check.INDEX, x -> x.common(place, 1));
        }
        c.refuses("common(-1, 1) of 64", Coders::full, Check.INDEX, x -> x.common(-1, 1));
        c.refuses("common(64, 1) of 64", Coders::full, Check.INDEX, x -> x.common(64, 1));
        c.takes("common(15, 1) of 16", Coders::middle, x -> x.common(15, 1));
        c.takes("common(63, 1) of 64", Coders::full, x -> x.common(63, 1));
        c.refuses("common(0, 1) where there is a place 0", Coders::full, Check.ARGUMENT, x -> x.common(0, 1));
    }

    /** No place is so far behind that 64 could be taken. */
    private static void commonDistance(Check c) {
        c.range("common(63, distance)", Coders::full, 1, 63, Check.ARGUMENT, (x, distance) -> x.common(63, distance));
        c.refuses("common(63, 65)", Coders::full, Check.ARGUMENT, x -> x.common(63, 65));
        c.refuses("common(0, 0)", Coders::middle, Check.ARGUMENT, x -> x.common(0, 0));
    }

    private static void commonTooFar(Check c) {
        c.refuses("common(0, 1)", Coders::middle, Check.ARGUMENT, x -> x.common(0, 1));
        for (int k = 1; k < 64; k++) {
            int place = k;
            c.takes("common of " + place + " and its place", Coders::full, x -> x.common(place, place));
            c.refuses("common of " + place + " and one more", Coders::full, Check.ARGUMENT, x -> x.common(place, place + 1));
        }
    }

    private static void widthOfReturns(Check c) {
        MatchCoder x = new MatchCoder();
        int width = 1;
        for (int n = 1; n <= 255; n++) {
            width += n == 2 || n == 4 || n == 8 || n == 16 || n == 32 || n == 64 || n == 128 ? 2 : 0;
            c.same("widthOf(" + n + ")", x.widthOf(n), width);
        }
        c.same("widthOf(255) is the widest", width, 15);
    }

    private static void widthOfThrows(Check c) {
        c.range("widthOf", MatchCoder::new, 1, 255, Check.ARGUMENT, MatchCoder::widthOf);
        c.range("widthOf", Coders::middle, 1, 255, Check.ARGUMENT, MatchCoder::widthOf);
    }
}
