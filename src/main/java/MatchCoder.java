/**
 * A coder for short texts that replaces parts by references to earlier ones.
 *
 * <p>All rows are made with the object and used again: no call but the constructor makes an object,
 * other than the exception that it throws.
 */
public final class MatchCoder {
    private static final int MOST_BYTES = 64;
    private static final int MOST_BITS = 800;
    private static final int MOST_READ = 200;
    private static final int MOST_ZEROS = 7;
    private static final int MOST_PRICE = 30;
    private static final int GREATEST_NUMBER = 255;

    private static final int LITERAL = 0;
    private static final int MATCH = 1;
    private static final int AGAIN = 2;

    private final Text text;
    private final Settings settings;
    private final Finder finder;
    private final QuickWay quickWay;
    private final BestWay bestWay;
    private final Plan plan;
    private final Bits bits;
    private final Reading reading;

    public MatchCoder() {
        text = new Text();
        settings = new Settings();
        finder = new Finder(text, settings);
        quickWay = new QuickWay(text, finder);
        bestWay = new BestWay(text, settings);
        plan = new Plan();
        bits = new Bits();
        reading = new Reading();
    }

    // ---- text

    public int feed(long bytes, int many) throws IllegalArgumentException, IllegalStateException {
        if (many < 1 || many > 8) {
            throw new IllegalArgumentException("many is not 1 to 8");
        }
        if (text.count + many > MOST_BYTES) {
            throw new IllegalStateException("the text would have more than 64 bytes");
        }
        for (int left = many - 1; left >= 0; left--) {
            text.push((int) ((bytes >> (8 * left)) & 255L));
        }
        plan.forget();
        return text.count;
    }

    public int fill(int value, int many) throws IllegalArgumentException, IllegalStateException {
        if (!isByte(value) || many < 1 || many > MOST_BYTES) {
            throw new IllegalArgumentException("value is not 0 to 255, or many is not 1 to 64");
        }
        if (text.count + many > MOST_BYTES) {
            throw new IllegalStateException("the text would have more than 64 bytes");
        }
        for (int done = 0; done < many; done++) {
            text.push(value);
        }
        plan.forget();
        return text.count;
    }

    public int cut(int many) throws IllegalArgumentException {
        if (many < 0 || many > text.count) {
            throw new IllegalArgumentException("many is negative, or greater than the size");
        }
        text.count -= many;
        plan.forget();
        return text.count;
    }

    public int set(int place, int value) throws IndexOutOfBoundsException, IllegalArgumentException {
        if (!text.has(place)) {
            throw new IndexOutOfBoundsException("there is no such place");
        }
        if (!isByte(value)) {
            throw new IllegalArgumentException("value is not 0 to 255");
        }
        int before = text.bytes[place];
        text.bytes[place] = value;
        plan.forget();
        return before;
    }

    public int size() {
        return text.count;
    }

    public int byteAt(int place) throws IndexOutOfBoundsException {
        if (!text.has(place)) {
            throw new IndexOutOfBoundsException("there is no such place");
        }
        return text.bytes[place];
    }

    // ---- settings

    public int setWindow(int window) throws IllegalArgumentException {
        if (window < 1 || window > MOST_BYTES) {
            throw new IllegalArgumentException("window is not 1 to 64");
        }
        int before = settings.window;
        settings.window = window;
        plan.forget();
        return before;
    }

    public boolean setLengths(int least, int greatest) throws IllegalArgumentException {
        if (least < 2 || least > 6) {
            throw new IllegalArgumentException("least is not 2 to 6");
        }
        if (greatest < 2 || greatest > MOST_BYTES || greatest < least) {
            throw new IllegalArgumentException("greatest is not 2 to 64, or less than least");
        }
        boolean changed = least != settings.least || greatest != settings.greatest;
        settings.least = least;
        settings.greatest = greatest;
        plan.forget();
        return changed;
    }

    public int setPrice(int price) throws IllegalArgumentException {
        if (price < 0 || price > MOST_PRICE) {
            throw new IllegalArgumentException("price is not 0 to 30");
        }
        int before = settings.price;
        settings.price = price;
        plan.forget();
        return before;
    }

    // ---- matches

    public int longest(int place) throws IndexOutOfBoundsException {
        if (!text.has(place)) {
            throw new IndexOutOfBoundsException("there is no such place");
        }
        return finder.matchLength(place);
    }

    public int nearest(int place) throws IndexOutOfBoundsException {
        if (!text.has(place)) {
            throw new IndexOutOfBoundsException("there is no such place");
        }
        return finder.matchDistance(place, finder.matchLength(place));
    }

    public int common(int place, int distance) throws IndexOutOfBoundsException, IllegalArgumentException {
        if (!text.has(place)) {
            throw new IndexOutOfBoundsException("there is no such place");
        }
        if (distance < 1 || distance > MOST_BYTES || distance > place) {
            throw new IllegalArgumentException("distance is not 1 to 64, or greater than the place");
        }
        return text.sameFrom(place, distance);
    }

    public int widthOf(int n) throws IllegalArgumentException {
        if (n < 1 || n > GREATEST_NUMBER) {
            throw new IllegalArgumentException("n is not 1 to 255");
        }
        return Code.numberBits(n);
    }

    // ---- plans

    public int best() {
        bestWay.weighStates();
        bestWay.choose(plan);
        return costOfPlan();
    }

    public int greedy() {
        quickWay.choose(plan, false);
        return costOfPlan();
    }

    public int lazy() {
        quickWay.choose(plan, true);
        return costOfPlan();
    }

    public boolean hasPlan() {
        return plan.chosen;
    }

    public int tokenCount() throws IllegalStateException {
        if (!plan.chosen) {
            throw new IllegalStateException("there is no plan");
        }
        return plan.count;
    }

    public int kind(int token) throws IllegalStateException, IndexOutOfBoundsException {
        requireToken(token);
        return plan.kinds[token];
    }

    public int length(int token) throws IllegalStateException, IndexOutOfBoundsException {
        requireToken(token);
        return plan.lengths[token];
    }

    public int distance(int token) throws IllegalStateException, IndexOutOfBoundsException {
        requireToken(token);
        return plan.distances[token];
    }

    public int start(int token) throws IllegalStateException, IndexOutOfBoundsException {
        requireToken(token);
        return plan.starts[token];
    }

    public int made(int kind) throws IllegalStateException, IndexOutOfBoundsException {
        if (!plan.chosen) {
            throw new IllegalStateException("there is no plan");
        }
        if (kind < LITERAL || kind > AGAIN) {
            throw new IndexOutOfBoundsException("kind is not 0 to 2");
        }
        return plan.bytesOfKind(kind);
    }

    public double ratio() throws IllegalStateException {
        if (!plan.chosen) {
            throw new IllegalStateException("there is no plan");
        }
        if (text.count == 0) {
            return 0.0;
        }
        return (double) plan.bitsOfAll() / (double) (8 * text.count);
    }

    // ---- bits

    public int write() throws IllegalStateException {
        if (!plan.chosen) {
            throw new IllegalStateException("there is no plan");
        }
        bits.count = 0;
        for (int token = 0; token < plan.count; token++) {
            writeToken(token);
        }
        return bits.count;
    }

    public int bitCount() {
        return bits.count;
    }

    public int bit(int index) throws IndexOutOfBoundsException {
        if (!bits.has(index)) {
            throw new IndexOutOfBoundsException("there is no such bit");
        }
        return bits.row[index];
    }

    public int flip(int index) throws IndexOutOfBoundsException {
        if (!bits.has(index)) {
            throw new IndexOutOfBoundsException("there is no such bit");
        }
        int before = bits.row[index];
        bits.row[index] = 1 - before;
        return before;
    }

    public int appendBits(int bits, int many) throws IllegalArgumentException, IllegalStateException {
        if (many < 1 || many > 16) {
            throw new IllegalArgumentException("many is not 1 to 16");
        }
        if (this.bits.count + many > MOST_BITS) {
            throw new IllegalStateException("there would be more than 800 bits");
        }
        this.bits.pushLow(bits, many);
        return this.bits.count;
    }

    public int cutBits(int many) throws IllegalArgumentException {
        if (many < 0 || many > bits.count) {
            throw new IllegalArgumentException("many is negative, or greater than the number of bits");
        }
        bits.count -= many;
        return bits.count;
    }

    public int read() {
        return reading.readAll(bits);
    }

    public int errorPosition() {
        return reading.failedAt;
    }

    public int outputSize() {
        return reading.count;
    }

    public int output(int place) throws IndexOutOfBoundsException {
        if (place < 0 || place >= reading.count) {
            throw new IndexOutOfBoundsException("there is no such place");
        }
        return reading.bytes[place];
    }

    public int differences() {
        int shorter = Math.min(text.count, reading.count);
        int longer = Math.max(text.count, reading.count);
        int different = longer - shorter;
        for (int place = 0; place < shorter; place++) {
            if (text.bytes[place] != reading.bytes[place]) {
                different++;
            }
        }
        return different;
    }

    public long digest() {
        long d = mixRow(107L, text.bytes, text.count);
        d = mix(d, settings.window);
        d = mix(d, settings.least);
        d = mix(d, settings.greatest);
        d = mix(d, settings.price);
        if (plan.chosen) {
            d = mixPlan(d);
        }
        d = mixRow(d, bits.row, bits.count);
        return mixRow(d, reading.bytes, reading.count);
    }

    // ---- helpers of the face

    private static boolean isByte(int value) {
        return value >= 0 && value <= 255;
    }

    private void requireToken(int token) {
        if (!plan.chosen) {
            throw new IllegalStateException("there is no plan");
        }
        if (token < 0 || token >= plan.count) {
            throw new IndexOutOfBoundsException("there is no such token");
        }
    }

    private int costOfPlan() {
        return plan.bitsOfAll() + settings.price * plan.count;
    }

    private void writeToken(int token) {
        int kind = plan.kinds[token];
        if (kind == LITERAL) {
            bits.pushLow(0, 1);
            bits.pushLow(text.bytes[plan.starts[token]], 8);
        } else if (kind == MATCH) {
            bits.pushLow(2, 2);
            bits.pushNumber(plan.distances[token]);
            bits.pushNumber(plan.lengths[token] - 1);
        } else {
            bits.pushLow(3, 2);
            bits.pushNumber(plan.lengths[token]);
        }
    }

    private static long mix(long d, int x) {
        return d * 31L + x;
    }

    private static long mixRow(long before, int[] row, int count) {
        long d = mix(before, count);
        for (int index = 0; index < count; index++) {
            d = mix(d, row[index]);
        }
        return d;
    }

    private long mixPlan(long before) {
        long d = mix(before, plan.count);
        for (int token = 0; token < plan.count; token++) {
            d = mix(d, plan.kinds[token]);
            d = mix(d, plan.lengths[token]);
            d = mix(d, plan.distances[token]);
        }
        return d;
    }

    /** The bytes to be coded. */
    private static final class Text {
        final int[] bytes = new int[MOST_BYTES];
        int count = 0;

        boolean has(int place) {
            return place >= 0 && place < count;
        }

        void push(int value) {
            if (count < MOST_BYTES) {
                bytes[count] = value;
                count++;
            }
        }

        /** For how many bytes from the place on each one is the byte this distance ahead of it. */
        int sameFrom(int place, int distance) {
            if (distance < 1 || distance > place) {
                return 0;
            }
            int next = place;
            while (next < count && bytes[next] == bytes[next - distance]) {
                next++;
            }
            return next - place;
        }
    }

    /** What limits the tokens of plans, and what each of them costs beside its bits. */
    private static final class Settings {
        int window = MOST_BYTES;
        int least = 3;
        int greatest = MOST_BYTES;
        int price = 0;
    }

    /** How many bits numbers and tokens are written with. */
    private static final class Code {
        static final int LITERAL_BITS = 9;

        /** Asked so often by the best way that three comparisons are better than a loop. */
        static int numberBits(int n) {
            if (n < 16) {
                return n < 4 ? (n < 2 ? 1 : 3) : (n < 8 ? 5 : 7);
            }
            return n < 64 ? (n < 32 ? 9 : 11) : (n < 128 ? 13 : 15);
        }

        static int matchBits(int distance, int length) {
            return 2 + numberBits(distance) + numberBits(length - 1);
        }

        static int againBits(int length) {
            return 2 + numberBits(length);
        }
    }

    /** Tells which MATCH and AGAIN tokens of a plan can stand at a place. */
    private static final class Finder {
        private final Text text;
        private final Settings settings;

        Finder(Text text, Settings settings) {
            this.text = text;
            this.settings = settings;
        }

        /** The greatest length of an AGAIN; 0 if none can stand there. */
        int againLength(int place, int present) {
            return Math.min(text.sameFrom(place, present), settings.greatest);
        }

        /** The greatest length of a MATCH; 0 if none can stand there. */
        int matchLength(int place) {
            int farthest = Math.min(place, settings.window);
            int greatest = 0;
            for (int distance = 1; distance <= farthest; distance++) {
                greatest = Math.max(greatest, againLength(place, distance));
            }
            return greatest < settings.least ? 0 : greatest;
        }

        /** The smallest distance of a MATCH whose length is matchLength's; 0 if that is 0. */
        int matchDistance(int place, int length) {
            int farthest = length == 0 ? 0 : Math.min(place, settings.window);
            for (int distance = 1; distance <= farthest; distance++) {
                if (againLength(place, distance) == length) {
                    return distance;
                }
            }
            return 0;
        }
    }

    /** The tokens that were chosen last. */
    private static final class Plan {
        final int[] kinds = new int[MOST_BYTES];
        final int[] lengths = new int[MOST_BYTES];
        final int[] distances = new int[MOST_BYTES];
        final int[] starts = new int[MOST_BYTES];
        int count = 0;
        boolean chosen = false;

        void forget() {
            chosen = false;
            count = 0;
        }

        void begin() {
            chosen = true;
            count = 0;
        }

        void add(int kind, int length, int distance, int start) {
            if (count < MOST_BYTES) {
                kinds[count] = kind;
                lengths[count] = length;
                distances[count] = distance;
                starts[count] = start;
                count++;
            }
        }

        int bytesOfKind(int kind) {
            int sum = 0;
            for (int token = 0; token < count; token++) {
                if (kinds[token] == kind) {
                    sum += lengths[token];
                }
            }
            return sum;
        }

        int bitsOfAll() {
            int sum = 0;
            for (int token = 0; token < count; token++) {
                sum += bitsOf(token);
            }
            return sum;
        }

        private int bitsOf(int token) {
            if (kinds[token] == LITERAL) {
                return Code.LITERAL_BITS;
            }
            if (kinds[token] == MATCH) {
                return Code.matchBits(distances[token], lengths[token]);
            }
            return Code.againBits(lengths[token]);
        }
    }

    /** The greedy and the lazy way. */
    private static final class QuickWay {
        private final Text text;
        private final Finder finder;

        QuickWay(Text text, Finder finder) {
            this.text = text;
            this.finder = finder;
        }

        void choose(Plan plan, boolean isLazy) {
            plan.begin();
            int place = 0;
            int present = 0;
            for (int token = 0; token < MOST_BYTES && place < text.count; token++) {
                int again = finder.againLength(place, present);
                int match = finder.matchLength(place);
                if (again > 0 && again >= match) {
                    plan.add(AGAIN, again, present, place);
                    place += again;
                } else if (match > 0 && !(isLazy && longestStep(place + 1, present) > match)) {
                    present = finder.matchDistance(place, match);
                    plan.add(MATCH, match, present, place);
                    place += match;
                } else {
                    plan.add(LITERAL, 1, 0, place);
                    place++;
                }
            }
        }

        /** The length of the MATCH or AGAIN that the greedy rule takes; 0 if it takes a LITERAL. */
        private int longestStep(int place, int present) {
            return Math.max(finder.againLength(place, present), finder.matchLength(place));
        }
    }

    /**
     * The best way. A state is a place with a present distance. The weight of a state is the sum of
     * costs of the best way from there to the end of the text, times COST_UNIT, plus the number of
     * its tokens, so that one comparison of weights looks at costs first and at tokens then.
     */
    private static final class BestWay {
        private static final int STATES = MOST_BYTES + 1;
        private static final int COST_UNIT = 128;
        private static final int NO_WAY = 1 << 30;

        private final Text text;
        private final Settings settings;
        private final int[] weights = new int[STATES * STATES];
        private final int[] runs = new int[STATES];
        private final int[] matchWeights = new int[MOST_BYTES];
        private final int[] matchLengths = new int[MOST_BYTES];
        private final int[] matchDistances = new int[MOST_BYTES];

        BestWay(Text text, Settings settings) {
            this.text = text;
            this.settings = settings;
        }

        /** The states must have been weighed for the present text and settings. */
        void choose(Plan plan) {
            plan.begin();
            int place = 0;
            int present = 0;
            for (int token = 0; token < MOST_BYTES && place < text.count; token++) {
                int weight = weights[place * STATES + present];
                if (weight == literalWeight(place, present)) {
                    plan.add(LITERAL, 1, 0, place);
                    place++;
                } else if (weight == matchWeights[place]) {
                    present = matchDistances[place];
                    plan.add(MATCH, matchLengths[place], present, place);
                    place += matchLengths[place];
                } else {
                    int length = againLength(place, present, text.sameFrom(place, present));
                    plan.add(AGAIN, length, present, place);
                    place += length;
                }
            }
        }

        /** Only distances up to the place and the window are weighed: no other can be present. */
        void weighStates() {
            int end = text.count;
            for (int present = 0; present < STATES; present++) {
                weights[end * STATES + present] = 0;
                runs[present] = 0;
            }
            for (int place = end - 1; place >= 0; place--) {
                int farthest = Math.min(place, settings.window);
                growRuns(place, farthest);
                weighMatches(place, farthest);
                for (int present = 0; present <= farthest; present++) {
                    weights[place * STATES + present] = lightest(place, present);
                }
            }
        }

        /** Turns the runs of equal bytes from the next place on into those from this place on. */
        private void growRuns(int place, int farthest) {
            for (int distance = 1; distance <= farthest; distance++) {
                boolean same = text.bytes[place] == text.bytes[place - distance];
                runs[distance] = same ? runs[distance] + 1 : 0;
            }
        }

        /** The best MATCH of a place is the same for every present distance: it replaces it. */
        private void weighMatches(int place, int farthest) {
            matchWeights[place] = NO_WAY;
            matchLengths[place] = 0;
            matchDistances[place] = 0;
            for (int distance = 1; distance <= farthest; distance++) {
                int longest = Math.min(runs[distance], settings.greatest);
                for (int length = settings.least; length <= longest; length++) {
                    offerMatch(place, distance, length);
                }
            }
        }

        /** Distances are offered from the smallest on, so one of the same length is never better. */
        private void offerMatch(int place, int distance, int length) {
            int weight = tokenWeight(Code.matchBits(distance, length))
                    + weights[(place + length) * STATES + distance];
            boolean longer = weight == matchWeights[place] && length > matchLengths[place];
            if (weight < matchWeights[place] || longer) {
                matchWeights[place] = weight;
                matchLengths[place] = length;
                matchDistances[place] = distance;
            }
        }

        private int lightest(int place, int present) {
            int weight = Math.min(literalWeight(place, present), matchWeights[place]);
            int length = againLength(place, present, runs[present]);
            return length == 0 ? weight : Math.min(weight, againWeight(place, present, length));
        }

        /** The length of the best AGAIN, of several the greatest; 0 if none can stand there. */
        private int againLength(int place, int present, int run) {
            int longest = Math.min(run, settings.greatest);
            int bestLength = 0;
            int bestWeight = NO_WAY;
            for (int length = 1; length <= longest; length++) {
                int weight = againWeight(place, present, length);
                if (weight <= bestWeight) {
                    bestWeight = weight;
                    bestLength = length;
                }
            }
            return bestLength;
        }

        private int literalWeight(int place, int present) {
            return tokenWeight(Code.LITERAL_BITS) + weights[(place + 1) * STATES + present];
        }

        private int againWeight(int place, int present, int length) {
            return tokenWeight(Code.againBits(length)) + weights[(place + length) * STATES + present];
        }

        private int tokenWeight(int bitsOfToken) {
            return (bitsOfToken + settings.price) * COST_UNIT + 1;
        }
    }

    /** A row of bits. */
    private static final class Bits {
        final int[] row = new int[MOST_BITS];
        int count = 0;

        boolean has(int index) {
            return index >= 0 && index < count;
        }

        /** Appends the lowest bits of a number, the highest one of them first. */
        void pushLow(int number, int many) {
            for (int left = many - 1; left >= 0 && count < MOST_BITS; left--) {
                row[count] = (number >> left) & 1;
                count++;
            }
        }

        /** The bits 0 ahead of the form are the number's own higher bits. */
        void pushNumber(int n) {
            pushLow(n, Code.numberBits(n));
        }
    }

    /** The latest reading of bits. */
    private static final class Reading {
        private static final int ENDED = 1;
        private static final int TOO_MANY_ZEROS = 2;
        private static final int TOO_FAR = 3;
        private static final int NO_DISTANCE = 4;
        private static final int TOO_LONG = 5;

        final int[] bytes = new int[MOST_READ];
        int count = 0;
        int failedAt = -1;
        private int next = 0;
        private int present = 0;

        int readAll(Bits bits) {
            count = 0;
            failedAt = -1;
            next = 0;
            present = 0;
            for (int token = 0; token < MOST_BITS && next < bits.count; token++) {
                int first = next;
                int error = readToken(bits);
                if (error != 0) {
                    failedAt = first;
                    return error;
                }
            }
            return 0;
        }

        private int readToken(Bits bits) {
            int head = takeBit(bits);
            if (head == 0) {
                return readLiteral(bits);
            }
            int second = takeBit(bits);
            if (second < 0) {
                return ENDED;
            }
            return second == 0 ? readMatch(bits) : readAgain(bits);
        }

        private int readLiteral(Bits bits) {
            int value = takeBehind(bits, 0, 8);
            if (value < 0) {
                return ENDED;
            }
            if (count >= MOST_READ) {
                return TOO_LONG;
            }
            bytes[count] = value;
            count++;
            return 0;
        }

        private int readMatch(Bits bits) {
            int distance = takeNumber(bits);
            if (distance < 0) {
                return -distance;
            }
            int lengthLessOne = takeNumber(bits);
            if (lengthLessOne < 0) {
                return -lengthLessOne;
            }
            if (distance > count) {
                return TOO_FAR;
            }
            int error = copy(distance, lengthLessOne + 1);
            if (error == 0) {
                present = distance;
            }
            return error;
        }

        private int readAgain(Bits bits) {
            int many = takeNumber(bits);
            if (many < 0) {
                return -many;
            }
            return present == 0 ? NO_DISTANCE : copy(present, many);
        }

        /** The distance is 1 to count here. */
        private int copy(int distance, int many) {
            if (many > MOST_READ - count) {
                return TOO_LONG;
            }
            for (int done = 0; done < many; done++) {
                bytes[count] = bytes[count - distance];
                count++;
            }
            return 0;
        }

        /** The next bit; -1 if there is none left. */
        private int takeBit(Bits bits) {
            if (next >= bits.count) {
                return -1;
            }
            next++;
            return bits.row[next - 1];
        }

        /** A number whose form begins with head and goes on with this many bits; -1 if they end. */
        private int takeBehind(Bits bits, int head, int many) {
            int number = head;
            for (int taken = 0; taken < many; taken++) {
                int one = takeBit(bits);
                if (one < 0) {
                    return -1;
                }
                number = 2 * number + one;
            }
            return number;
        }

        /** A number of 1 or more; an error is answered as its negative. */
        private int takeNumber(Bits bits) {
            for (int zeros = 0; zeros <= MOST_ZEROS; zeros++) {
                int one = takeBit(bits);
                if (one < 0) {
                    return -ENDED;
                }
                if (one == 1) {
                    int number = takeBehind(bits, 1, zeros);
                    return number < 0 ? -ENDED : number;
                }
            }
            return -TOO_MANY_ZEROS;
        }
    }
}
