/** Promises 26 to 31: write, bitCount, bit, flip, appendBits, cutBits. */
public final class BitsTest {
    private static final Check CHECK = new Check("BitsTest");
    private static final Class<IllegalArgumentException> ARGUMENT = IllegalArgumentException.class;
    private static final Class<IllegalStateException> STATE = IllegalStateException.class;
    private static final Class<IndexOutOfBoundsException> INDEX = IndexOutOfBoundsException.class;

    public static void main(String[] args) {
        write();
        noSuchBit();
        flip();
        appendBits();
        cutBits();
        CHECK.end();
    }

    private static String bits(MatchCoder x) {
        StringBuilder all = new StringBuilder();
        for (int index = 0; index < x.bitCount(); index++) {
            all.append(x.bit(index));
        }
        return all.toString();
    }

    /** Two literals, a MATCH, a literal and an AGAIN. */
    private static void write() {
        MatchCoder x = new MatchCoder();
        CHECK.refuses("write() without a plan", x, STATE, x::write);
        x.appendBits(5, 3);
        CHECK.refuses("write() without a plan, with bits", x, STATE, x::write);
        x.feed(0x81FF81FF81FF8109L, 8);
        x.feed(0x8109L, 2);
        x.setLengths(2, 5);
        CHECK.same("best()", x.best(), 42);
        CHECK.same("write()", x.write(), 42);
        CHECK.same("the bits", bits(x),
                "010000001" + "011111111" + "10" + "010" + "00100" + "000001001" + "11" + "010");
        CHECK.same("hasPlan() behind write", x.hasPlan(), true);
        CHECK.same("write() again", x.write(), 42);
        CHECK.same("bitCount()", x.bitCount(), 42);
        x.cut(9);
        x.lazy();
        CHECK.same("write() of a shorter text", x.write(), 9);
        CHECK.same("its bits", bits(x), "010000001");
    }

    private static void noSuchBit() {
        MatchCoder x = new MatchCoder();
        CHECK.refuses("bit(0) of none", x, INDEX, () -> x.bit(0));
        CHECK.refuses("flip(0) of none", x, INDEX, () -> x.flip(0));
        x.appendBits(2, 2);
        CHECK.same("bit(0)", x.bit(0), 1);
        CHECK.same("bit(1)", x.bit(1), 0);
        for (int index : new int[] {-1, 2, 799, 800, Integer.MIN_VALUE, Integer.MAX_VALUE}) {
            CHECK.refuses("bit(" + index + ")", x, INDEX, () -> x.bit(index));
            CHECK.refuses("flip(" + index + ")", x, INDEX, () -> x.flip(index));
        }
    }

    private static void flip() {
        MatchCoder x = new MatchCoder();
        x.appendBits(4, 3);
        x.best();
        CHECK.same("flip(0)", x.flip(0), 1);
        CHECK.same("flip(2)", x.flip(2), 0);
        CHECK.same("the bits", bits(x), "001");
        CHECK.same("flip(2) again", x.flip(2), 1);
        CHECK.same("the bits then", bits(x), "000");
        CHECK.same("hasPlan() behind flip", x.hasPlan(), true);
    }

    private static void appendBits() {
        MatchCoder x = new MatchCoder();
        x.best();
        CHECK.same("appendBits(-1, 1)", x.appendBits(-1, 1), 1);
        CHECK.same("appendBits of 16", x.appendBits(0xF8001, 16), 17);
        CHECK.same("the bits", bits(x), "1" + "1000000000000001");
        for (int many : new int[] {0, 17, -1, Integer.MIN_VALUE, Integer.MAX_VALUE}) {
            CHECK.refuses("appendBits of " + many, x, ARGUMENT, () -> x.appendBits(1, many));
        }
        for (int count = 17; count <= 784; count += 16) {
            x.appendBits(0, 16);
        }
        CHECK.same("bitCount() near the end", x.bitCount(), 785);
        CHECK.refuses("appendBits of 16 beyond 800", x, STATE, () -> x.appendBits(0, 16));
        CHECK.refuses("appendBits of 17 beyond 800", x, ARGUMENT, () -> x.appendBits(0, 17));
        CHECK.same("appendBits up to 800", x.appendBits(1, 15), 800);
        CHECK.same("bit(799)", x.bit(799), 1);
        CHECK.refuses("appendBits behind 800", x, STATE, () -> x.appendBits(0, 1));
        CHECK.same("hasPlan() behind appendBits", x.hasPlan(), true);
    }

    private static void cutBits() {
        MatchCoder x = new MatchCoder();
        CHECK.same("cutBits(0) of none", x.cutBits(0), 0);
        CHECK.refuses("cutBits(1) of none", x, ARGUMENT, () -> x.cutBits(1));
        x.appendBits(0x2C, 6);
        x.best();
        for (int many : new int[] {-1, 7, Integer.MIN_VALUE, Integer.MAX_VALUE}) {
            CHECK.refuses("cutBits(" + many + ")", x, ARGUMENT, () -> x.cutBits(many));
        }
        CHECK.same("cutBits(2)", x.cutBits(2), 4);
        CHECK.same("the bits left", bits(x), "1011");
        CHECK.same("appendBits behind cutBits", x.appendBits(0, 1), 5);
        CHECK.same("the bits then", bits(x), "10110");
        CHECK.same("cutBits(5)", x.cutBits(5), 0);
        CHECK.same("hasPlan() behind cutBits", x.hasPlan(), true);
    }
}
