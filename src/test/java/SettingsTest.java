/** Promises 8 to 10, and what the description says of the settings, sentence by sentence. */
public final class SettingsTest {
    public static void main(String[] args) {
        sentences().run();
    }

    static Sentences sentences() {
        return new Sentences("SettingsTest")
                .under("Description")
                .holds("Settings. The window, 1 to 64 (64 at first);", SettingsTest::window)
                .holds("the least length of a match, 2 to 6 (3 at first),", SettingsTest::least)
                .holds("and the greatest one, 2 to 64 (64 at first),", SettingsTest::greatest)
                .holds("which is not less than the least one;", SettingsTest::notLess)
                .holds("and the price of a token, 0 to 30 (0 at first).", SettingsTest::price)
                .under("Promise 8: setWindow")
                .holds("Sets the window.", SettingsTest::setWindowSets)
                .holds("Returns the window before.", SettingsTest::setWindowReturns)
                .holds("Throws `IllegalArgumentException` if window is not 1 to 64", SettingsTest::setWindowThrows)
                .under("Promise 9: setLengths")
                .holds("Sets the least and the greatest length of a match.", SettingsTest::setLengthsSets)
                .holds("Returns whether one of them is another one than before.", SettingsTest::setLengthsReturns)
                .holds("Throws `IllegalArgumentException` if least is not 2 to 6,", SettingsTest::setLengthsLeast)
                .holds("greatest is not 2 to 64,", SettingsTest::setLengthsGreatest)
                .holds("or greatest is less than least", SettingsTest::setLengthsLess)
                .under("Promise 10: setPrice")
                .holds("Sets the price of a token.", SettingsTest::setPriceSets)
                .holds("Returns the price before.", SettingsTest::setPriceReturns)
                .holds("Throws `IllegalArgumentException` if price is not 0 to 30", SettingsTest::setPriceThrows);
    }

    /** At first no distance of a text is too great: the farthest match of one has the distance 61. */
    private static void window(Check c) {
        c.same("the window at first", new MatchCoder().setWindow(1), 64);
        c.same("nearest(61) at first", Coders.text(Coders.repeating(61, 3)).nearest(61), 61);
        c.takes("setWindow(1)", MatchCoder::new, x -> x.setWindow(1));
        c.takes("setWindow(64)", MatchCoder::new, x -> x.setWindow(64));
        c.refuses("setWindow(0)", MatchCoder::new, Check.ARGUMENT, x -> x.setWindow(0));
        c.refuses("setWindow(65)", MatchCoder::new, Check.ARGUMENT, x -> x.setWindow(65));
    }

    private static void least(Check c) {
        c.same("whether 3 is another least length", new MatchCoder().setLengths(3, 64), false);
        c.same("a match of 3 at first", Coders.text("abcdabc").longest(4), 3);
        c.same("a match of 2 at first", Coders.text("abcdab").longest(4), 0);
        c.takes("setLengths(2, 64)", MatchCoder::new, x -> x.setLengths(2, 64));
        c.takes("setLengths(6, 64)", MatchCoder::new, x -> x.setLengths(6, 64));
        c.refuses("setLengths(1, 64)", MatchCoder::new, Check.ARGUMENT, x -> x.setLengths(1, 64));
        c.refuses("setLengths(7, 64)", MatchCoder::new, Check.ARGUMENT, x -> x.setLengths(7, 64));
    }

    private static void greatest(Check c) {
        c.same("whether 63 is another greatest length", new MatchCoder().setLengths(3, 63), true);
        c.same("the longest match at first", Coders.filled(1, 64).longest(1), 63);
        c.takes("setLengths(2, 2)", MatchCoder::new, x -> x.setLengths(2, 2));
        c.takes("setLengths(3, 64)", MatchCoder::new, x -> x.setLengths(3, 64));
        c.refuses("setLengths(2, 1)", MatchCoder::new, Check.ARGUMENT, x -> x.setLengths(2, 1));
        c.refuses("setLengths(3, 65)", MatchCoder::new, Check.ARGUMENT, x -> x.setLengths(3, 65));
    }

    private static void notLess(Check c) {
        c.takes("setLengths(6, 6)", MatchCoder::new, x -> x.setLengths(6, 6));
        c.refuses("setLengths(6, 5)", MatchCoder::new, Check.ARGUMENT, x -> x.setLengths(6, 5));
        c.refuses("setLengths(3, 2)", MatchCoder::new, Check.ARGUMENT, x -> x.setLengths(3, 2));
    }

    private static void price(Check c) {
        c.same("the price at first", new MatchCoder().setPrice(1), 0);
        c.same("the cost of a byte at first", Coders.text("a").best(), 9);
        c.takes("setPrice(0)", MatchCoder::new, x -> x.setPrice(0));
        c.takes("setPrice(30)", MatchCoder::new, x -> x.setPrice(30));
        c.refuses("setPrice(-1)", MatchCoder::new, Check.ARGUMENT, x -> x.setPrice(-1));
        c.refuses("setPrice(31)", MatchCoder::new, Check.ARGUMENT, x -> x.setPrice(31));
    }

    private static void setWindowSets(Check c) {
        for (int window = 2; window <= 61; window++) {
            MatchCoder x = Coders.text(Coders.repeating(window, 3));
            x.setWindow(window);
            c.same("nearest(" + window + ") in the window " + window, x.nearest(window), window);
            x.setWindow(window - 1);
            c.same("nearest(" + window + ") in the window " + (window - 1), x.nearest(window), 0);
        }
        MatchCoder y = Coders.filled(7, 64);
        y.setWindow(1);
        c.same("longest(1) in the window 1", y.longest(1), 63);
    }

    private static void setWindowReturns(Check c) {
        MatchCoder x = new MatchCoder();
        int before = 64;
        for (int window = 1; window <= 64; window++) {
            c.same("setWindow(" + window + ")", x.setWindow(window), before);
            before = window;
        }
        c.same("setWindow(64) again", x.setWindow(64), 64);
    }

    private static void setWindowThrows(Check c) {
        c.range("setWindow", MatchCoder::new, 1, 64, Check.ARGUMENT, MatchCoder::setWindow);
        c.range("setWindow", Coders::middle, 1, 64, Check.ARGUMENT, MatchCoder::setWindow);
    }

    private static void setLengthsSets(Check c) {
        for (int least = 2; least <= 6; least++) {
            for (int greatest = least; greatest <= 64; greatest++) {
                MatchCoder x = Coders.filled(7, 64);
                x.setLengths(least, greatest);
                String what = " of lengths " + least + " to " + greatest;
                c.same("longest(1)" + what, x.longest(1), Math.min(63, greatest));
                c.same("longest where the least length is left" + what, x.longest(64 - least), least);
                c.same("longest where less is left" + what, x.longest(65 - least), 0);
            }
        }
    }

    private static void setLengthsReturns(Check c) {
        MatchCoder x = new MatchCoder();
        c.same("setLengths(3, 64), as at first", x.setLengths(3, 64), false);
        c.same("setLengths(2, 64), another least one", x.setLengths(2, 64), true);
        c.same("setLengths(2, 63), another greatest one", x.setLengths(2, 63), true);
        c.same("setLengths(2, 63) again", x.setLengths(2, 63), false);
        c.same("setLengths(6, 6), both others", x.setLengths(6, 6), true);
        c.same("setLengths(6, 6) again", x.setLengths(6, 6), false);
        c.same("setLengths(2, 2), both others by the same", x.setLengths(2, 2), true);
        c.same("setLengths(3, 3), both others by one", x.setLengths(3, 3), true);
    }

    private static void setLengthsLeast(Check c) {
        c.range("setLengths(least, 64)", MatchCoder::new, 2, 6, Check.ARGUMENT, (x, least) -> x.setLengths(least, 64));
        c.range("setLengths(least, 6)", Coders::middle, 2, 6, Check.ARGUMENT, (x, least) -> x.setLengths(least, 6));
    }

    private static void setLengthsGreatest(Check c) {
        c.range("setLengths(2, greatest)", MatchCoder::new, 2, 64, Check.ARGUMENT,
                (x, greatest) -> x.setLengths(2, greatest));
        c.range("setLengths(2, greatest)", Coders::middle, 2, 64, Check.ARGUMENT,
                (x, greatest) -> x.setLengths(2, greatest));
        c.refuses("setLengths(6, 65)", Coders::middle, Check.ARGUMENT, x -> x.setLengths(6, 65));
    }

    private static void setLengthsLess(Check c) {
        for (int k = 2; k <= 6; k++) {
            int least = k;
            c.takes("setLengths of two times " + least, MatchCoder::new, x -> x.setLengths(least, least));
            for (int greatest = 1; greatest < least; greatest++) {
                int less = greatest;
                c.refuses("setLengths(" + least + ", " + less + ")", Coders::middle, Check.ARGUMENT,
                        x -> x.setLengths(least, less));
            }
        }
    }

    private static void setPriceSets(Check c) {
        for (int price = 0; price <= 30; price++) {
            for (Coders.Way way : Coders.Way.values()) {
                MatchCoder x = Coders.text("abc");
                x.setPrice(price);
                c.same("the cost of three literals with the price " + price, way.choose(x), 3 * (9 + price));
            }
        }
    }

    private static void setPriceReturns(Check c) {
        MatchCoder x = new MatchCoder();
        int before = 0;
        for (int price = 30; price >= 0; price--) {
            c.same("setPrice(" + price + ")", x.setPrice(price), before);
            before = price;
        }
        c.same("setPrice(0) again", x.setPrice(0), 0);
    }

    private static void setPriceThrows(Check c) {
        c.range("setPrice", MatchCoder::new, 0, 30, Check.ARGUMENT, MatchCoder::setPrice);
        c.range("setPrice", Coders::middle, 0, 30, Check.ARGUMENT, MatchCoder::setPrice);
    }
}
