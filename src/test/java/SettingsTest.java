/** Promises 8 to 10: setWindow, setLengths, setPrice. */
public final class SettingsTest {
    private static final Check CHECK = new Check("SettingsTest");
    private static final Class<IllegalArgumentException> ARGUMENT = IllegalArgumentException.class;

    public static void main(String[] args) {
        setWindow();
        setLengths();
        setPrice();
        CHECK.end();
    }

    private static void setWindow() {
        MatchCoder x = new MatchCoder();
        CHECK.same("setWindow(1)", x.setWindow(1), 64);
        CHECK.same("setWindow(33)", x.setWindow(33), 1);
        x.best();
        for (int window : new int[] {0, 65, -1, Integer.MIN_VALUE, Integer.MAX_VALUE}) {
            CHECK.refuses("setWindow(" + window + ")", x, ARGUMENT, () -> x.setWindow(window));
        }
        CHECK.same("setWindow(64)", x.setWindow(64), 33);
        x.feed(0x01020301020301L, 7);
        CHECK.same("longest(3) in the window 64", x.longest(3), 4);
        x.setWindow(3);
        CHECK.same("longest(3) in the window 3", x.longest(3), 4);
        x.setWindow(2);
        CHECK.same("longest(3) in the window 2", x.longest(3), 0);
        CHECK.same("best() in the window 2", x.best(), 63);
    }

    private static void setLengths() {
        MatchCoder x = new MatchCoder();
        CHECK.same("setLengths(3, 64)", x.setLengths(3, 64), false);
        CHECK.same("setLengths(2, 64)", x.setLengths(2, 64), true);
        CHECK.same("setLengths(2, 2)", x.setLengths(2, 2), true);
        CHECK.same("setLengths(2, 2) again", x.setLengths(2, 2), false);
        CHECK.same("setLengths(6, 6)", x.setLengths(6, 6), true);
        x.lazy();
        int[][] wrong = {{1, 5}, {7, 10}, {2, 1}, {2, 65}, {4, 3}, {6, 5}, {-1, -1}, {0, 0}, {7, 7},
            {Integer.MIN_VALUE, 5}, {Integer.MAX_VALUE, Integer.MAX_VALUE}, {3, Integer.MAX_VALUE}};
        for (int[] pair : wrong) {
            CHECK.refuses("setLengths(" + pair[0] + ", " + pair[1] + ")", x, ARGUMENT,
                    () -> x.setLengths(pair[0], pair[1]));
        }
        x.fill(1, 20);
        CHECK.same("longest(1) of lengths 6 to 6", x.longest(1), 6);
        CHECK.same("longest(15) of lengths 6 to 6", x.longest(15), 0);
        x.setLengths(2, 64);
        CHECK.same("longest(1) of lengths 2 to 64", x.longest(1), 19);
        CHECK.same("longest(18) of lengths 2 to 64", x.longest(18), 2);
        CHECK.same("longest(19) of lengths 2 to 64", x.longest(19), 0);
    }

    private static void setPrice() {
        MatchCoder x = new MatchCoder();
        CHECK.same("setPrice(30)", x.setPrice(30), 0);
        CHECK.same("setPrice(7)", x.setPrice(7), 30);
        x.greedy();
        for (int price : new int[] {-1, 31, Integer.MIN_VALUE, Integer.MAX_VALUE}) {
            CHECK.refuses("setPrice(" + price + ")", x, ARGUMENT, () -> x.setPrice(price));
        }
        x.feed(0x0102L, 2);
        CHECK.same("best() with the price 7", x.best(), 32);
        CHECK.same("write() with the price 7", x.write(), 18);
        CHECK.same("setPrice(0)", x.setPrice(0), 7);
        CHECK.same("best() with the price 0", x.best(), 18);
    }
}
