/** Promises 1 to 7: a new object, feed, fill, cut, set, size, byteAt. */
public final class TextTest {
    private static final Check CHECK = new Check("TextTest");
    private static final Class<IllegalArgumentException> ARGUMENT = IllegalArgumentException.class;
    private static final Class<IllegalStateException> STATE = IllegalStateException.class;
    private static final Class<IndexOutOfBoundsException> INDEX = IndexOutOfBoundsException.class;

    public static void main(String[] args) {
        newObject();
        feed();
        fill();
        cut();
        set();
        byteAt();
        plansAreForgotten();
        CHECK.end();
    }

    private static void newObject() {
        MatchCoder x = new MatchCoder();
        CHECK.same("size() of a new object", x.size(), 0);
        CHECK.same("hasPlan() of a new object", x.hasPlan(), false);
        CHECK.same("bitCount() of a new object", x.bitCount(), 0);
        CHECK.same("outputSize() of a new object", x.outputSize(), 0);
        CHECK.same("errorPosition() of a new object", x.errorPosition(), -1);
        CHECK.same("differences() of a new object", x.differences(), 0);
        CHECK.same("the window of a new object", x.setWindow(64), 64);
        CHECK.same("the price of a new object", x.setPrice(0), 0);
        CHECK.same("whether 3 to 64 are other lengths", x.setLengths(3, 64), false);
    }

    private static void feed() {
        MatchCoder x = new MatchCoder();
        CHECK.same("feed of 3", x.feed(0x010203, 3), 3);
        CHECK.same("the first byte", x.byteAt(0), 1);
        CHECK.same("the last byte", x.byteAt(2), 3);
        CHECK.same("feed of 8", x.feed(0xFF00000000000080L, 8), 11);
        CHECK.same("the highest byte", x.byteAt(3), 255);
        CHECK.same("the lowest byte", x.byteAt(10), 128);
        CHECK.same("feed of the lowest byte alone", x.feed(-2L, 1), 12);
        CHECK.same("that byte", x.byteAt(11), 254);
        x.best();
        for (int many : new int[] {0, 9, -1, Integer.MIN_VALUE, Integer.MAX_VALUE}) {
            CHECK.refuses("feed of " + many, x, ARGUMENT, () -> x.feed(1L, many));
        }
        x.fill(5, 45);
        CHECK.same("size()", x.size(), 57);
        x.lazy();
        CHECK.refuses("feed beyond 64", x, STATE, () -> x.feed(1L, 8));
        CHECK.refuses("feed of 9 beyond 64", x, ARGUMENT, () -> x.feed(1L, 9));
        CHECK.same("feed up to 64", x.feed(1L, 7), 64);
        CHECK.refuses("feed behind 64", x, STATE, () -> x.feed(1L, 1));
    }

    private static void fill() {
        MatchCoder x = new MatchCoder();
        CHECK.same("fill with 1", x.fill(255, 1), 1);
        CHECK.same("fill with 3", x.fill(0, 3), 4);
        CHECK.same("the byte ahead", x.byteAt(0), 255);
        CHECK.same("the byte filled first", x.byteAt(1), 0);
        x.greedy();
        for (int value : new int[] {-1, 256, Integer.MIN_VALUE, Integer.MAX_VALUE}) {
            CHECK.refuses("fill with the value " + value, x, ARGUMENT, () -> x.fill(value, 1));
        }
        for (int many : new int[] {-1, 0, 65, Integer.MIN_VALUE, Integer.MAX_VALUE}) {
            CHECK.refuses("fill with " + many, x, ARGUMENT, () -> x.fill(1, many));
        }
        CHECK.refuses("fill beyond 64", x, STATE, () -> x.fill(1, 61));
        CHECK.refuses("fill of a wrong value beyond 64", x, ARGUMENT, () -> x.fill(256, 61));
        CHECK.same("fill up to 64", x.fill(1, 60), 64);
        CHECK.same("fill of 64", new MatchCoder().fill(9, 64), 64);
    }

    private static void cut() {
        MatchCoder x = new MatchCoder();
        CHECK.same("cut of 0 of nothing", x.cut(0), 0);
        CHECK.refuses("cut of 1 of nothing", x, ARGUMENT, () -> x.cut(1));
        x.feed(0x0102030405L, 5);
        x.best();
        CHECK.refuses("cut of -1", x, ARGUMENT, () -> x.cut(-1));
        CHECK.refuses("cut of 6 of 5", x, ARGUMENT, () -> x.cut(6));
        CHECK.refuses("cut of the least int", x, ARGUMENT, () -> x.cut(Integer.MIN_VALUE));
        CHECK.same("cut of 2", x.cut(2), 3);
        CHECK.same("the last byte left", x.byteAt(2), 3);
        CHECK.fails("byteAt behind the cut", INDEX, () -> x.byteAt(3));
        x.feed(7L, 1);
        CHECK.same("the byte fed behind the cut", x.byteAt(3), 7);
        CHECK.same("cut of all", x.cut(4), 0);
    }

    private static void set() {
        MatchCoder x = new MatchCoder();
        CHECK.refuses("set in an empty text", x, INDEX, () -> x.set(0, 1));
        x.feed(0x0102FFL, 3);
        CHECK.same("set of the last", x.set(2, 0), 255);
        CHECK.same("set of it again", x.set(2, 255), 0);
        CHECK.same("the byte that was set", x.byteAt(2), 255);
        CHECK.same("the byte ahead of it", x.byteAt(1), 2);
        x.best();
        for (int place : new int[] {-1, 3, 64, Integer.MIN_VALUE, Integer.MAX_VALUE}) {
            CHECK.refuses("set at " + place, x, INDEX, () -> x.set(place, 1));
            CHECK.refuses("set of a wrong value at " + place, x, INDEX, () -> x.set(place, 256));
        }
        for (int value : new int[] {-1, 256, Integer.MIN_VALUE, Integer.MAX_VALUE}) {
            CHECK.refuses("set to " + value, x, ARGUMENT, () -> x.set(0, value));
        }
    }

    private static void byteAt() {
        MatchCoder x = new MatchCoder();
        CHECK.fails("byteAt(0) of an empty text", INDEX, () -> x.byteAt(0));
        x.fill(200, 64);
        CHECK.same("byteAt(63)", x.byteAt(63), 200);
        for (int place : new int[] {-1, 64, Integer.MIN_VALUE, Integer.MAX_VALUE}) {
            CHECK.refuses("byteAt(" + place + ")", x, INDEX, () -> x.byteAt(place));
        }
        x.cut(1);
        CHECK.fails("byteAt(63) behind the end", INDEX, () -> x.byteAt(63));
    }

    /** Also by calls that change nothing, but not by those that only ask. */
    private static void plansAreForgotten() {
        for (int way = 0; way < 7; way++) {
            MatchCoder x = new MatchCoder();
            x.feed(0x0101010101L, 5);
            x.best();
            x.size();
            x.byteAt(0);
            x.longest(1);
            x.write();
            x.read();
            CHECK.same("hasPlan() ahead of change " + way, x.hasPlan(), true);
            change(x, way);
            CHECK.same("hasPlan() behind change " + way, x.hasPlan(), false);
            CHECK.same("bitCount() behind change " + way, x.bitCount() > 0, true);
            CHECK.same("outputSize() behind change " + way, x.outputSize(), 5);
        }
    }

    private static void change(MatchCoder x, int way) {
        switch (way) {
            case 0 -> x.feed(1L, 1);
            case 1 -> x.fill(1, 1);
            case 2 -> x.cut(0);
            case 3 -> x.set(0, 1);
            case 4 -> x.setWindow(64);
            case 5 -> x.setLengths(3, 64);
            default -> x.setPrice(0);
        }
    }
}
