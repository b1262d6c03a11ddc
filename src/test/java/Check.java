import java.util.concurrent.Callable;

/** Counts and prints the answers that are not the ones that are due. */
final class Check {
    private final String name;
    private int looked = 0;
    private int wrong = 0;

    Check(String name) {
        this.name = name;
    }

    void same(String what, Object got, Object due) {
        looked++;
        if (!got.equals(due)) {
            wrong++;
            if (wrong <= 20) {
                System.out.println(name + ": " + what + " answered " + got + ", due is " + due);
            }
        }
    }

    void fails(String what, Class<? extends Exception> due, Callable<?> call) {
        same(what, outcome(call), thrown(due));
    }

    /** As fails, and the call must leave the object's digest and plan as they were. */
    void refuses(String what, MatchCoder x, Class<? extends Exception> due, Callable<?> call) {
        long digest = x.digest();
        boolean planned = x.hasPlan();
        int errorPosition = x.errorPosition();
        fails(what, due, call);
        same(what + " leaves the digest", x.digest(), digest);
        same(what + " leaves the plan", x.hasPlan(), planned);
        same(what + " leaves the error's position", x.errorPosition(), errorPosition);
    }

    /** What the call answers, or the name of the exception that it throws. */
    static Object outcome(Callable<?> call) {
        try {
            return call.call();
        } catch (Exception e) {
            return thrown(e.getClass());
        }
    }

    private static String thrown(Class<? extends Exception> kind) {
        return "throws." + kind.getSimpleName();
    }

    boolean good() {
        return wrong == 0;
    }

    void end() {
        System.out.println(name + ": " + looked + " answers looked at, " + wrong + " wrong");
        if (wrong > 0 || looked == 0) {
            System.exit(1);
        }
    }
}
