/** What BreaksTest calls where MatchCoder is a broken one. */
public final class Breaks {
    private Breaks() {
    }

    /** Whether the test of this sentence fails. */
    public static boolean isTold(int test, int sentence) {
        return !DocumentTest.all().get(test).list().get(sentence).look("").good();
    }
}
