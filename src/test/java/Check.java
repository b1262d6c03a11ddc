import java.util.concurrent.Callable;
import java.util.function.Function;
import java.util.function.Supplier;

/** Counts and prints the answers that are not the ones that are due. */
final class Check {
    static final Class<IllegalArgumentException> ARGUMENT = IllegalArgumentException.class;
    static final Class<IllegalStateException> STATE = IllegalStateException.class;
    static final Class<IndexOutOfBoundsException> INDEX = IndexOutOfBoundsException.class;

    /** A call whose argument a range is promised for. */
    interface NumberCall {
        Object of(MatchCoder x, int number);
    }

    private final String name;
    private int looked = 0;
    private int wrong = 0;

    Check(String name) {
        this.name = name;
    }

    void same(String what, Object got, Object due) {
        looked++;
        if (!got.equals(due)) {
            wrong++;
            if (wrong <= 20) {
                System.out.println(name + ": " + what + " answered " + got + ", due is " + due);
            }
        }
    }

    /** The call throws what is due, and leaves all that the face tells of the object as it was. */
    void refuses(String what, Supplier<MatchCoder> start, Class<? extends Exception> due,
            Function<MatchCoder, ?> call) {
        for (State.Part part : State.PARTS) {
            MatchCoder called = start.get();
            same(what, outcome(() -> call.apply(called)), thrown(due));
            same(what + ", then " + part.name(), part.of(called), part.of(start.get()));
        }
    }

    void takes(String what, Supplier<MatchCoder> start, Function<MatchCoder, ?> call) {
        Object answer = outcome(() -> call.apply(start.get()));
        same(what + " is taken", answer instanceof String ? answer : "taken", "taken");
    }

    /**
     * Both ends of a range are taken. What lies beyond them is refused: the next numbers, those whose
     * lower eight or sixteen bits alone would be in the range, and the ends of int.
     */
    void range(String what, Supplier<MatchCoder> start, int least, int greatest,
            Class<? extends Exception> due, NumberCall call) {
        for (int number : new int[] {least, greatest}) {
            takes(what + " of " + number, start, x -> call.of(x, number));
        }
        for (int number : new int[] {least - 1, greatest + 1, least + 256 * (1 + greatest / 256),
                least + 65536, greatest - 65536, Integer.MIN_VALUE, Integer.MAX_VALUE}) {
            refuses(what + " of " + number, start, due, x -> call.of(x, number));
        }
    }

    /** What the call answers, or the name of the exception that it throws. */
    static Object outcome(Callable<?> call) {
        try {
            return call.call();
        } catch (Exception e) {
            return thrown(e.getClass());
        }
    }

    private static String thrown(Class<? extends Exception> kind) {
        return "throws." + kind.getSimpleName();
    }

    int looked() {
        return looked;
    }

    boolean good() {
        return wrong == 0;
    }

    void end() {
        System.out.println(name + ": " + looked + " answers looked at, " + wrong + " wrong");
        if (wrong > 0 || looked == 0) {
            System.exit(1);
        }
    }
}
