import java.util.ArrayList;
import java.util.List;
import java.util.function.Function;

/**
 * All that the face tells of an object, in parts: an object answers 512 calls only, so each part is
 * asked of an object of its own.
 */
final class State {
    record Part(String name, Function<MatchCoder, List<Object>> asked) {
        List<Object> of(MatchCoder x) {
            return asked.apply(x);
        }
    }

    static final List<Part> PARTS = List.of(
            new Part("the text", State::text),
            new Part("the settings", State::settings),
            new Part("the plan", State::plan),
            new Part("the first bits", x -> bits(x, 0, 400)),
            new Part("the other bits", x -> bits(x, 400, 800)),
            new Part("what was read", State::output),
            new Part("what comes of it", State::later));

    private State() {
    }

    private static List<Object> text(MatchCoder x) {
        List<Object> all = new ArrayList<>(List.of(x.digest(), x.size(), x.differences()));
        for (int place = 0; place < x.size(); place++) {
            all.add(x.byteAt(place));
        }
        return all;
    }

    /** The lengths are told by the matches of a text of equal bytes. */
    private static List<Object> settings(MatchCoder x) {
        List<Object> all = new ArrayList<>(List.of(x.setWindow(64), x.setPrice(0)));
        x.cut(x.size());
        x.fill(0, 64);
        for (int place : new int[] {1, 58, 59, 60, 61, 62}) {
            all.add(x.longest(place));
        }
        return all;
    }

    private static List<Object> plan(MatchCoder x) {
        List<Object> all = new ArrayList<>(List.of(x.hasPlan()));
        if (x.hasPlan()) {
            all.addAll(List.of(x.tokenCount(), x.ratio(), x.made(0), x.made(1), x.made(2)));
            for (int token = 0; token < x.tokenCount(); token++) {
                all.addAll(List.of(x.kind(token), x.length(token), x.distance(token), x.start(token)));
            }
        }
        return all;
    }

    private static List<Object> bits(MatchCoder x, int from, int to) {
        int count = x.bitCount();
        List<Object> all = new ArrayList<>(List.of(count));
        for (int index = from; index < Math.min(count, to); index++) {
            all.add(x.bit(index));
        }
        return all;
    }

    private static List<Object> output(MatchCoder x) {
        List<Object> all = new ArrayList<>(List.of(x.errorPosition(), x.outputSize()));
        for (int place = 0; place < x.outputSize(); place++) {
            all.add(x.output(place));
        }
        return all;
    }

    private static List<Object> later(MatchCoder x) {
        return List.of(x.read(), x.errorPosition(), x.greedy(), x.lazy(), x.best(), x.write(), x.read(),
                x.differences(), x.digest());
    }
}
