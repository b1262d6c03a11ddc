/** Promise 37: digest. */
public final class DigestTest {
    private static final Check CHECK = new Check("DigestTest");

    public static void main(String[] args) {
        MatchCoder x = new MatchCoder();
        CHECK.same("digest() of a new object", x.digest(), mixed(0, 64, 3, 64, 0, 0, 0));
        x.feed(0x07FFL, 2);
        x.setWindow(9);
        x.setLengths(2, 8);
        x.setPrice(4);
        CHECK.same("digest() of a text and settings", x.digest(), mixed(2, 7, 255, 9, 2, 8, 4, 0, 0));
        x.best();
        CHECK.same("digest() of a plan", x.digest(), mixed(2, 7, 255, 9, 2, 8, 4, 2, 0, 1, 0, 0, 1, 0, 0, 0));
        x.appendBits(1, 2);
        CHECK.same("digest() of bits", x.digest(), mixed(2, 7, 255, 9, 2, 8, 4, 2, 0, 1, 0, 0, 1, 0, 2, 0, 1, 0));
        x.cut(2);
        x.appendBits(3, 7);
        x.read();
        CHECK.same("digest() of a reading", x.digest(), mixed(0, 9, 2, 8, 4, 9, 0, 1, 0, 0, 0, 0, 0, 1, 1, 1, 131));
        x.best();
        CHECK.same("digest() of an empty plan", x.digest(), mixed(0, 9, 2, 8, 4, 0, 9, 0, 1, 0, 0, 0, 0, 0, 1, 1, 1, 131));
        x.fill(6, 5);
        x.setLengths(3, 3);
        x.best();
        CHECK.same("digest() of all kinds", x.digest(), mixed(5, 6, 6, 6, 6, 6, 9, 3, 3, 4,
                3, 0, 1, 0, 1, 3, 1, 2, 1, 1, 9, 0, 1, 0, 0, 0, 0, 0, 1, 1, 1, 131));
        CHECK.same("digest() changes nothing", x.digest(), x.digest());
        CHECK.end();
    }

    private static long mixed(int... numbers) {
        long d = 107;
        for (int x : numbers) {
            d = d * 31 + x;
        }
        return d;
    }
}
