/** Promises 11 to 14: longest, nearest, common, widthOf. */
public final class MatchesTest {
    private static final Check CHECK = new Check("MatchesTest");
    private static final Class<IllegalArgumentException> ARGUMENT = IllegalArgumentException.class;
    private static final Class<IndexOutOfBoundsException> INDEX = IndexOutOfBoundsException.class;

    public static void main(String[] args) {
        longestAndNearest();
        noSuchPlace();
        common();
        widthOf();
        CHECK.end();
    }

    /** Of "abcdabcabcdab": at 7 the distance 7 is the longest, at 4 the distance 4. */
    private static void longestAndNearest() {
        MatchCoder x = new MatchCoder();
        x.feed(0x6162636461626361L, 8);
        x.feed(0x6263646162L, 5);
        CHECK.same("longest(0)", x.longest(0), 0);
        CHECK.same("nearest(0)", x.nearest(0), 0);
        CHECK.same("longest(3)", x.longest(3), 0);
        CHECK.same("longest(4)", x.longest(4), 3);
        CHECK.same("nearest(4)", x.nearest(4), 4);
        CHECK.same("longest(7)", x.longest(7), 6);
        CHECK.same("nearest(7)", x.nearest(7), 7);
        CHECK.same("longest(11) under the least length", x.longest(11), 0);
        CHECK.same("nearest(11) under the least length", x.nearest(11), 0);
        x.setLengths(2, 3);
        CHECK.same("longest(7) with the greatest 3", x.longest(7), 3);
        CHECK.same("nearest(7) with the greatest 3", x.nearest(7), 3);
        CHECK.same("longest(11) with the least 2", x.longest(11), 2);
        CHECK.same("nearest(11) with the least 2", x.nearest(11), 4);
        x.setLengths(2, 64);
        x.setWindow(6);
        CHECK.same("longest(7) in the window 6", x.longest(7), 3);
        CHECK.same("nearest(7) in the window 6", x.nearest(7), 3);
        x.cut(13);
        x.fill(3, 64);
        CHECK.same("longest(1) of 64 equal bytes", x.longest(1), 63);
        CHECK.same("nearest(30) of 64 equal bytes", x.nearest(30), 1);
        CHECK.same("longest(63) of 64 equal bytes", x.longest(63), 0);
    }

    private static void noSuchPlace() {
        MatchCoder x = new MatchCoder();
        CHECK.fails("longest(0) of an empty text", INDEX, () -> x.longest(0));
        CHECK.fails("nearest(0) of an empty text", INDEX, () -> x.nearest(0));
        CHECK.fails("common(0, 1) of an empty text", INDEX, () -> x.common(0, 1));
        x.fill(1, 64);
        x.best();
        for (int place : new int[] {-1, 64, Integer.MIN_VALUE, Integer.MAX_VALUE}) {
            CHECK.refuses("longest(" + place + ")", x, INDEX, () -> x.longest(place));
            CHECK.refuses("nearest(" + place + ")", x, INDEX, () -> x.nearest(place));
            CHECK.refuses("common(" + place + ", 1)", x, INDEX, () -> x.common(place, 1));
            CHECK.refuses("common(" + place + ", 0)", x, INDEX, () -> x.common(place, 0));
        }
        x.longest(5);
        x.nearest(5);
        x.common(5, 1);
        x.widthOf(9);
        CHECK.same("hasPlan() behind questions", x.hasPlan(), true);
    }

    /** Neither the window nor the lengths matter. */
    private static void common() {
        MatchCoder x = new MatchCoder();
        x.feed(0x0102010201020301L, 8);
        x.setWindow(1);
        x.setLengths(2, 2);
        CHECK.same("common(2, 2)", x.common(2, 2), 4);
        CHECK.same("common(1, 1)", x.common(1, 1), 0);
        CHECK.same("common(7, 7)", x.common(7, 7), 1);
        CHECK.same("common(4, 4)", x.common(4, 4), 2);
        for (int distance : new int[] {0, -1, 5, 64, 65, Integer.MIN_VALUE, Integer.MAX_VALUE}) {
            CHECK.refuses("common(4, " + distance + ")", x, ARGUMENT, () -> x.common(4, distance));
        }
        CHECK.fails("common(0, 1)", ARGUMENT, () -> x.common(0, 1));
        x.cut(8);
        x.fill(9, 64);
        CHECK.same("common(63, 63)", x.common(63, 63), 1);
        CHECK.same("common(1, 1) of equal bytes", x.common(1, 1), 63);
        CHECK.fails("common(63, 64)", ARGUMENT, () -> x.common(63, 64));
    }

    private static void widthOf() {
        MatchCoder x = new MatchCoder();
        for (int n = 1; n <= 255; n++) {
            CHECK.same("widthOf(" + n + ")", x.widthOf(n), 2 * Integer.toBinaryString(n).length() - 1);
        }
        for (int n : new int[] {0, -1, 256, Integer.MIN_VALUE, Integer.MAX_VALUE}) {
            CHECK.refuses("widthOf(" + n + ")", x, ARGUMENT, () -> x.widthOf(n));
        }
    }
}
