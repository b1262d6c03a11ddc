import com.sun.management.ThreadMXBean;
import java.lang.management.ManagementFactory;
import java.util.function.Function;

/** All calls of a run live in one room: what 512 of the same call make is counted. */
public final class RoomTest {
    private static final Check CHECK = new Check("RoomTest");
    /** The bytes of 7.3 million elements, if each were an int. */
    private static final long ROOM = 4L * 7_300_000L;
    private static final ThreadMXBean THREADS = (ThreadMXBean) ManagementFactory.getThreadMXBean();

    public static void main(String[] args) {
        look("best()", MatchCoder::best);
        look("greedy()", MatchCoder::greedy);
        look("lazy()", MatchCoder::lazy);
        look("write()", MatchCoder::write);
        look("read()", MatchCoder::read);
        look("digest()", MatchCoder::digest);
        look("longest(30)", x -> x.longest(30));
        look("nearest(30)", x -> x.nearest(30));
        look("differences()", MatchCoder::differences);
        look("ratio()", MatchCoder::ratio);
        look("made(0)", x -> x.made(0));
        look("a new object", x -> new MatchCoder());
        CHECK.end();
    }

    private static void look(String what, Function<MatchCoder, ?> call) {
        MatchCoder[] objects = {Coders.full(), Coders.filled(0, 64)};
        objects[1].best();
        for (MatchCoder x : objects) {
            long before = THREADS.getThreadAllocatedBytes(Thread.currentThread().getId());
            for (int k = 0; k < 400; k++) {
                call.apply(x);
            }
            long made = THREADS.getThreadAllocatedBytes(Thread.currentThread().getId()) - before;
            CHECK.same("whether 512 calls of " + what + " fit into the room", made / 400 * 512 < ROOM, true);
        }
    }
}
