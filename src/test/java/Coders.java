/** Objects to begin a test with, and what they hold, written down shortly. */
final class Coders {
    /** The three ways to choose a plan. */
    enum Way {
        BEST, GREEDY, LAZY;

        int choose(MatchCoder x) {
            return this == BEST ? x.best() : this == GREEDY ? x.greedy() : x.lazy();
        }
    }

    private Coders() {
    }

    /** A coder of a text whose signs are its bytes. */
    static MatchCoder text(String bytes) {
        MatchCoder x = new MatchCoder();
        for (int place = 0; place < bytes.length(); place += 8) {
            int many = Math.min(8, bytes.length() - place);
            long all = 0;
            for (int k = 0; k < many; k++) {
                all = all << 8 | bytes.charAt(place + k);
            }
            x.feed(all, many);
        }
        return x;
    }

    static MatchCoder text(String bytes, int least, int greatest) {
        MatchCoder x = text(bytes);
        x.setLengths(least, greatest);
        return x;
    }

    static MatchCoder filled(int value, int many) {
        MatchCoder x = new MatchCoder();
        if (many > 0) {
            x.fill(value, many);
        }
        return x;
    }

    static MatchCoder bits(String row) {
        MatchCoder x = new MatchCoder();
        for (int index = 0; index < row.length(); index += 16) {
            String part = row.substring(index, Math.min(row.length(), index + 16));
            x.appendBits(Integer.parseInt(part, 2), part.length());
        }
        return x;
    }

    /** A text, other settings than at first, a plan of all kinds, its bits, and a reading with an error. */
    static MatchCoder middle() {
        MatchCoder x = text("abcdefghabcXefgh", 2, 20);
        x.setWindow(40);
        x.setPrice(3);
        x.best();
        x.write();
        x.cutBits(4);
        x.read();
        return x;
    }

    /** As full as it can be: 64 bytes, a plan of 64 tokens, 800 bits, and 200 bytes that were read. */
    static MatchCoder full() {
        MatchCoder x = bits(literal(7) + match(1, 199) + "0110".repeat(200).substring(27));
        x.read();
        for (long first = 0x1011121314151617L; x.size() < 64; first += 0x0808080808080808L) {
            x.feed(first, 8);
        }
        x.setPrice(30);
        x.lazy();
        return x;
    }

    /** As many different bytes. */
    static String different(int many) {
        StringBuilder all = new StringBuilder();
        for (int k = 0; k < many; k++) {
            all.append((char) (100 + k));
        }
        return all.toString();
    }

    /** As many different bytes, and then others, each of which is the byte that far ahead of it. */
    static String repeating(int distance, int behind) {
        String first = different(distance);
        return first.repeat(2 + behind / distance).substring(0, distance + behind);
    }

    static String literal(int value) {
        return "0" + Model.padded(value, 8);
    }

    static String match(int distance, int length) {
        return "10" + Model.number(distance) + Model.number(length - 1);
    }

    static String again(int length) {
        return "11" + Model.number(length);
    }

    static String bytesOf(MatchCoder x) {
        StringBuilder all = new StringBuilder();
        int count = x.size();
        for (int place = 0; place < count; place++) {
            all.append((char) x.byteAt(place));
        }
        return all.toString();
    }

    /** Tokens as L, M of length and distance, A of length and distance. */
    static String tokensOf(MatchCoder x) {
        StringBuilder all = new StringBuilder();
        for (int token = 0; token < x.tokenCount(); token++) {
            all.append(token == 0 ? "" : " ").append("LMA".charAt(x.kind(token)));
            if (x.kind(token) != 0) {
                all.append(x.length(token)).append(',').append(x.distance(token));
            }
        }
        return all.toString();
    }

    static String tokensOf(Way way, MatchCoder x) {
        way.choose(x);
        return tokensOf(x);
    }

    static String bitsOf(MatchCoder x) {
        StringBuilder all = new StringBuilder();
        int count = x.bitCount();
        for (int index = 0; index < count; index++) {
            all.append(x.bit(index));
        }
        return all.toString();
    }

    static String outputOf(MatchCoder x) {
        StringBuilder all = new StringBuilder();
        int count = x.outputSize();
        for (int place = 0; place < count; place++) {
            all.append(place == 0 ? "" : " ").append(x.output(place));
        }
        return all.toString();
    }
}
