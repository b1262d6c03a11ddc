import java.util.ArrayList;
import java.util.HashMap;
import java.util.List;
import java.util.Map;

/**
 * The document written down once more, as slowly and plainly as its words: the other tests compare
 * MatchCoder with it.
 */
final class Model {
    record Token(int kind, int length, int distance) {
        String bits(int literalByte) {
            if (kind == 0) {
                return "0" + padded(literalByte, 8);
            }
            return kind == 1 ? "10" + number(distance) + number(length - 1) : "11" + number(length);
        }

        int width() {
            return kind == 0 ? 9 : kind == 1 ? 2 + wide(distance) + wide(length - 1) : 2 + wide(length);
        }

        private static int wide(int n) {
            return 63 - 2 * Integer.numberOfLeadingZeros(n);
        }

        /** Whether a plan with this token comes ahead of one with the other token at its place. */
        boolean ahead(Token other) {
            return kind != other.kind ? kind < other.kind
                    : length != other.length ? length > other.length
                    : distance < other.distance;
        }
    }

    final List<Integer> text = new ArrayList<>();
    int window = 64;
    int least = 3;
    int greatest = 64;
    int price = 0;
    List<Token> plan = null;
    String bits = "";
    final List<Integer> made = new ArrayList<>();
    int errorPosition = -1;

    // ---- text and settings

    int feed(long bytes, int many) {
        demand(many >= 1 && many <= 8);
        room(text.size() + many <= 64);
        for (int i = 0; i < many; i++) {
            text.add((int) (bytes >>> 8 * (many - 1 - i) & 0xff));
        }
        plan = null;
        return text.size();
    }

    int fill(int value, int many) {
        demand(value >= 0 && value <= 255 && many >= 1 && many <= 64);
        room(text.size() + many <= 64);
        for (int i = 0; i < many; i++) {
            text.add(value);
        }
        plan = null;
        return text.size();
    }

    int cut(int many) {
        demand(many >= 0 && many <= text.size());
        text.subList(text.size() - many, text.size()).clear();
        plan = null;
        return text.size();
    }

    int set(int place, int value) {
        there(place, text.size());
        demand(value >= 0 && value <= 255);
        plan = null;
        return text.set(place, value);
    }

    int byteAt(int place) {
        there(place, text.size());
        return text.get(place);
    }

    int setWindow(int value) {
        demand(value >= 1 && value <= 64);
        int before = window;
        window = value;
        plan = null;
        return before;
    }

    boolean setLengths(int newLeast, int newGreatest) {
        demand(newLeast >= 2 && newLeast <= 6 && newGreatest >= 2 && newGreatest <= 64 && newGreatest >= newLeast);
        boolean other = newLeast != least || newGreatest != greatest;
        least = newLeast;
        greatest = newGreatest;
        plan = null;
        return other;
    }

    int setPrice(int value) {
        demand(value >= 0 && value <= 30);
        int before = price;
        price = value;
        plan = null;
        return before;
    }

    // ---- matches

    boolean makes(int place, int distance, int length) {
        if (distance < 1 || distance > place || place + length > text.size()) {
            return false;
        }
        for (int i = place; i < place + length; i++) {
            if (!text.get(i).equals(text.get(i - distance))) {
                return false;
            }
        }
        return true;
    }

    boolean matchStands(int place, int distance, int length) {
        return distance <= window && length >= least && length <= greatest && makes(place, distance, length);
    }

    int longest(int place) {
        there(place, text.size());
        return longestMatch(place)[0];
    }

    int nearest(int place) {
        there(place, text.size());
        return longestMatch(place)[1];
    }

    private int[] longestMatch(int place) {
        for (int length = 64; length >= 2; length--) {
            for (int distance = 1; distance <= 64; distance++) {
                if (matchStands(place, distance, length)) {
                    return new int[] {length, distance};
                }
            }
        }
        return new int[] {0, 0};
    }

    private int longestAgain(int place, int present) {
        int length = 0;
        while (length < greatest && makes(place, present, length + 1)) {
            length++;
        }
        return length;
    }

    int common(int place, int distance) {
        there(place, text.size());
        demand(distance >= 1 && distance <= 64 && distance <= place);
        int length = 0;
        while (makes(place, distance, length + 1)) {
            length++;
        }
        return length;
    }

    int widthOf(int n) {
        demand(n >= 1 && n <= 255);
        return number(n).length();
    }

    static String number(int n) {
        String form = Integer.toBinaryString(n);
        return "0".repeat(form.length() - 1) + form;
    }

    static String padded(int value, int width) {
        String form = Integer.toBinaryString(value);
        return "0".repeat(width - form.length()) + form;
    }

    // ---- plans

    /** A plan from some place on: its first token and the plan behind it; null is the empty one. */
    record Way(Token first, Way rest, int cost, int size) {
    }

    private Way way(Token first, Way rest) {
        int cost = first.width() + price + (rest == null ? 0 : rest.cost);
        return new Way(first, rest, cost, 1 + (rest == null ? 0 : rest.size));
    }

    private static List<Token> tokensOf(Way way) {
        List<Token> all = new ArrayList<>();
        for (Way left = way; left != null; left = left.rest) {
            all.add(left.first);
        }
        return all;
    }

    int costOf(List<Token> tokens) {
        return tokens.stream().mapToInt(t -> t.width() + price).sum();
    }

    /** Whether the first plan, of the same text, is the better one. */
    private static boolean better(Way a, Way b) {
        if (a.cost != b.cost) {
            return a.cost < b.cost;
        }
        if (a.size != b.size) {
            return a.size < b.size;
        }
        Way p = a;
        Way q = b;
        while (p != null && p.first.equals(q.first)) {
            p = p.rest;
            q = q.rest;
        }
        return p != null && p.first.ahead(q.first);
    }

    List<Token> tokensAt(int place, int present) {
        List<Token> all = new ArrayList<>();
        all.add(new Token(0, 1, 0));
        for (int length = 1; place + length <= text.size(); length++) {
            for (int distance = 1; distance <= place; distance++) {
                if (matchStands(place, distance, length)) {
                    all.add(new Token(1, length, distance));
                }
            }
            if (present != 0 && length <= greatest && makes(place, present, length)) {
                all.add(new Token(2, length, present));
            }
        }
        return all;
    }

    private static int presentAfter(Token token, int present) {
        return token.kind == 1 ? token.distance : present;
    }

    int best() {
        plan = tokensOf(bestFrom(0, 0, new HashMap<>()));
        return costOf(plan);
    }

    private Way bestFrom(int place, int present, Map<Integer, Way> known) {
        int key = place * 100 + present;
        if (place < text.size() && !known.containsKey(key)) {
            Way bestWay = null;
            for (Token token : tokensAt(place, present)) {
                Way way = way(token, bestFrom(place + token.length, presentAfter(token, present), known));
                if (bestWay == null || better(way, bestWay)) {
                    bestWay = way;
                }
            }
            known.put(key, bestWay);
        }
        return known.get(key);
    }

    /** The best of all plans, each of them made: for short texts, as a check of bestFrom itself. */
    List<Token> bestOfAll() {
        Way bestWay = null;
        for (Way way : allFrom(0, 0)) {
            if (bestWay == null || way != null && better(way, bestWay)) {
                bestWay = way;
            }
        }
        return tokensOf(bestWay);
    }

    private List<Way> allFrom(int place, int present) {
        List<Way> all = new ArrayList<>();
        if (place == text.size()) {
            all.add(null);
            return all;
        }
        for (Token token : tokensAt(place, present)) {
            for (Way rest : allFrom(place + token.length, presentAfter(token, present))) {
                all.add(way(token, rest));
            }
        }
        return all;
    }

    private Token greedyToken(int place, int present) {
        int again = present == 0 ? 0 : longestAgain(place, present);
        int[] match = longestMatch(place);
        if (again >= match[0] && again != 0) {
            return new Token(2, again, present);
        }
        return match[0] != 0 ? new Token(1, match[0], match[1]) : new Token(0, 1, 0);
    }

    private Token lazyToken(int place, int present) {
        Token token = greedyToken(place, present);
        if (token.kind == 1 && place + 1 < text.size()) {
            Token behind = greedyToken(place + 1, present);
            if (behind.kind != 0 && behind.length > token.length) {
                return new Token(0, 1, 0);
            }
        }
        return token;
    }

    int quick(boolean lazy) {
        plan = new ArrayList<>();
        int place = 0;
        int present = 0;
        while (place < text.size()) {
            Token token = lazy ? lazyToken(place, present) : greedyToken(place, present);
            plan.add(token);
            place += token.length;
            present = presentAfter(token, present);
        }
        return costOf(plan);
    }

    List<Token> planned() {
        room(plan != null);
        return plan;
    }

    Token token(int index) {
        there(index, planned().size());
        return plan.get(index);
    }

    int start(int index) {
        token(index);
        return plan.subList(0, index).stream().mapToInt(Token::length).sum();
    }

    int made(int kind) {
        planned();
        there(kind, 3);
        return plan.stream().filter(t -> t.kind == kind).mapToInt(Token::length).sum();
    }

    double ratio() {
        int sum = costOf(planned()) - price * plan.size();
        return text.isEmpty() ? 0.0 : sum / (8.0 * text.size());
    }

    // ---- bits

    int write() {
        planned();
        StringBuilder all = new StringBuilder();
        for (int i = 0; i < plan.size(); i++) {
            all.append(plan.get(i).bits(text.get(start(i))));
        }
        bits = all.toString();
        return bits.length();
    }

    int bit(int index) {
        there(index, bits.length());
        return bits.charAt(index) - '0';
    }

    int flip(int index) {
        int before = bit(index);
        bits = bits.substring(0, index) + (1 - before) + bits.substring(index + 1);
        return before;
    }

    int appendBits(int value, int many) {
        demand(many >= 1 && many <= 16);
        room(bits.length() + many <= 800);
        bits += padded(value & (1 << many) - 1, many);
        return bits.length();
    }

    int cutBits(int many) {
        demand(many >= 0 && many <= bits.length());
        bits = bits.substring(0, bits.length() - many);
        return bits.length();
    }

    // ---- reading: a token is tried on what is left, and the rest behind it goes on

    private int position;
    private int error;

    int read() {
        made.clear();
        errorPosition = -1;
        position = 0;
        error = 0;
        int present = 0;
        while (position < bits.length()) {
            int first = position;
            present = readToken(present);
            if (error != 0) {
                errorPosition = first;
                return error;
            }
        }
        return 0;
    }

    private int readToken(int present) {
        String head = take(1);
        if (head.equals("0")) {
            String value = take(8);
            if (error == 0 && made.size() == 200) {
                error = 5;
            }
            if (error == 0) {
                made.add(Integer.parseInt(value, 2));
            }
            return present;
        }
        boolean again = take(1).equals("1");
        int distance = again ? present : takeNumber();
        int length = takeNumber() + (again ? 0 : 1);
        if (error == 0) {
            error = !again && distance > made.size() ? 3
                    : again && present == 0 ? 4
                    : made.size() + length > 200 ? 5 : 0;
        }
        for (int i = 0; error == 0 && i < length; i++) {
            made.add(made.get(made.size() - distance));
        }
        return distance;
    }

    private String take(int many) {
        if (error != 0 || position + many > bits.length()) {
            error = error == 0 ? 1 : error;
            return "";
        }
        position += many;
        return bits.substring(position - many, position);
    }

    private int takeNumber() {
        if (error != 0) {
            return 0;
        }
        String left = bits.substring(position);
        if (left.startsWith("00000000")) {
            error = 2;
            return 0;
        }
        int zeros = left.indexOf('1');
        if (zeros < 0) {
            error = 1;
            return 0;
        }
        String form = take(2 * zeros + 1);
        return error == 0 ? Integer.parseInt(form, 2) : 0;
    }

    int output(int place) {
        there(place, made.size());
        return made.get(place);
    }

    int differences() {
        int different = 0;
        for (int i = 0; i < text.size() || i < made.size(); i++) {
            if (i >= text.size() || i >= made.size() || !text.get(i).equals(made.get(i))) {
                different++;
            }
        }
        return different;
    }

    long digest() {
        List<Integer> all = new ArrayList<>();
        all.add(text.size());
        all.addAll(text);
        all.addAll(List.of(window, least, greatest, price));
        if (plan != null) {
            all.add(plan.size());
            plan.forEach(t -> all.addAll(List.of(t.kind, t.length, t.distance)));
        }
        all.add(bits.length());
        bits.chars().forEach(c -> all.add(c - '0'));
        all.add(made.size());
        all.addAll(made);
        long d = 107;
        for (int x : all) {
            d = d * 31 + x;
        }
        return d;
    }

    // ---- the three exceptions

    private static void demand(boolean holds) {
        if (!holds) {
            throw new IllegalArgumentException();
        }
    }

    private static void room(boolean holds) {
        if (!holds) {
            throw new IllegalStateException();
        }
    }

    private static void there(int index, int count) {
        if (index < 0 || index >= count) {
            throw new IndexOutOfBoundsException();
        }
    }
}
