import java.math.BigInteger;
import java.util.Arrays;

/** Promise 37, sentence by sentence. */
public final class DigestTest {
    public static void main(String[] args) {
        sentences().run();
    }

    static Sentences sentences() {
        return new Sentences("DigestTest")
                .under("Promise 37: digest")
                .holds("Computes a checksum. A number d starts with 107; for each of the following numbers x, d becomes"
                        + " d * 31 + x,", DigestTest::ofANewObject)
                .holds("which wraps around as a 64-bit integer:", DigestTest::wrapsAround)
                .holds("the size of the text, and its bytes;", DigestTest::ofTheText)
                .holds("the window, the least and the greatest length, and the price;", DigestTest::ofTheSettings)
                .holds("if there is a plan, the number of its tokens, and for each of them its kind, its length and its"
                        + " distance;", DigestTest::ofThePlan)
                .holds("the number of bits, and these;", DigestTest::ofTheBits)
                .holds("the number of bytes that were read, and these.", DigestTest::ofTheReading)
                .holds("Returns d.", DigestTest::returnsAndChangesNothing);
    }

    private static long mixed(int... numbers) {
        long d = 107;
        for (int x : numbers) {
            d = d * 31 + x;
        }
        return d;
    }

    private static void ofANewObject(Check c) {
        c.same("digest() of a new object", new MatchCoder().digest(), mixed(0, 64, 3, 64, 0, 0, 0));
        c.same("the same, as a number", new MatchCoder().digest(),
                ((((((107L * 31) * 31 + 64) * 31 + 3) * 31 + 64) * 31) * 31) * 31);
    }

    /** Wrapped at the end alone, it is the same; some of them are negative. */
    private static void wrapsAround(Check c) {
        int negative = 0;
        for (int value = 0; value <= 255; value++) {
            int[] numbers = new int[71];
            numbers[0] = 64;
            Arrays.fill(numbers, 1, 65, value);
            numbers[65] = 64;
            numbers[66] = 3;
            numbers[67] = 64;
            BigInteger d = BigInteger.valueOf(107);
            for (int number : numbers) {
                d = d.multiply(BigInteger.valueOf(31)).add(BigInteger.valueOf(number));
            }
            c.same("digest() of 64 bytes " + value, Coders.filled(value, 64).digest(), d.longValue());
            c.same("whether it is more than 64 bits", d.bitLength() > 64, true);
            negative += d.longValue() < 0 ? 1 : 0;
        }
        c.same("whether some are negative, and some are not", negative > 0 && negative < 256, true);
    }

    private static void ofTheText(Check c) {
        c.same("digest() of one byte 0", Coders.text("\0").digest(), mixed(1, 0, 64, 3, 64, 0, 0, 0));
        c.same("digest() of a text", Coders.text("\u00ff\7").digest(), mixed(2, 255, 7, 64, 3, 64, 0, 0, 0));
        MatchCoder x = Coders.text("abc");
        x.cut(3);
        c.same("digest() of an emptied one", x.digest(), new MatchCoder().digest());
    }

    private static void ofTheSettings(Check c) {
        MatchCoder x = new MatchCoder();
        x.setWindow(1);
        x.setLengths(2, 2);
        x.setPrice(30);
        c.same("digest() of the least lengths", x.digest(), mixed(0, 1, 2, 2, 30, 0, 0));
        x.setWindow(64);
        x.setLengths(6, 64);
        x.setPrice(0);
        c.same("digest() of the greatest lengths", x.digest(), mixed(0, 64, 6, 64, 0, 0, 0));
    }

    private static void ofThePlan(Check c) {
        MatchCoder x = new MatchCoder();
        x.best();
        c.same("digest() of an empty plan", x.digest(), mixed(0, 64, 3, 64, 0, 0, 0, 0));
        x.cut(0);
        c.same("digest() without it", x.digest(), mixed(0, 64, 3, 64, 0, 0, 0));
        MatchCoder y = Coders.text("aaaaa", 3, 3);
        c.same("digest() ahead of a plan", y.digest(), mixed(5, 97, 97, 97, 97, 97, 64, 3, 3, 0, 0, 0));
        y.lazy();
        c.same("digest() of all kinds", y.digest(),
                mixed(5, 97, 97, 97, 97, 97, 64, 3, 3, 0, 3, 0, 1, 0, 1, 3, 1, 2, 1, 1, 0, 0));
    }

    private static void ofTheBits(Check c) {
        c.same("digest() of one bit 0", Coders.bits("0").digest(), mixed(0, 64, 3, 64, 0, 1, 0, 0));
        c.same("digest() of bits", Coders.bits("1101").digest(), mixed(0, 64, 3, 64, 0, 4, 1, 1, 0, 1, 0));
        MatchCoder x = Coders.bits("1101");
        x.cutBits(3);
        c.same("digest() of what is left", x.digest(), mixed(0, 64, 3, 64, 0, 1, 1, 0));
        int[] most = new int[807];
        most[1] = 64;
        most[2] = 3;
        most[3] = 64;
        most[5] = 800;
        Arrays.fill(most, 6, 806, 1);
        c.same("digest() of 800 bits", Coders.bits("1".repeat(800)).digest(), mixed(most));
    }

    private static void ofTheReading(Check c) {
        MatchCoder x = Coders.bits(Coders.literal(131) + "0");
        x.read();
        c.same("digest() of a reading with an error", x.digest(),
                mixed(0, 64, 3, 64, 0, 10, 0, 1, 0, 0, 0, 0, 0, 1, 1, 0, 1, 131));
        x.cutBits(10);
        c.same("digest() until the next reading", x.digest(), mixed(0, 64, 3, 64, 0, 0, 1, 131));
        x.read();
        c.same("digest() of a reading of nothing", x.digest(), mixed(0, 64, 3, 64, 0, 0, 0));
    }

    private static void returnsAndChangesNothing(Check c) {
        for (MatchCoder x : new MatchCoder[] {new MatchCoder(), Coders.middle(), Coders.full()}) {
            long first = x.digest();
            c.same("digest() again", x.digest(), first);
        }
        for (State.Part part : State.PARTS) {
            MatchCoder x = Coders.middle();
            x.digest();
            c.same(part.name() + " behind digest()", part.of(x), part.of(Coders.middle()));
        }
    }
}
