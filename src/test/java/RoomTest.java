import com.sun.management.ThreadMXBean;
import java.lang.management.ManagementFactory;

/** The room: a call makes no objects at all, and a new object is small. */
public final class RoomTest {
    private static final Check CHECK = new Check("RoomTest");
    private static final int ROUNDS = 2000;
    private static final String TEXT = "tmsmsms;f9 14 18 0 63;f4 15 17 1 62;f0 8 9 2 61;f2 5 13 3 60;f11 3 2 1 59;h4;";

    public static void main(String[] args) {
        ThreadMXBean threads = (ThreadMXBean) ManagementFactory.getThreadMXBean();
        long id = Thread.currentThread().getId();
        HermitDues x = new HermitDues();
        round(x);
        threads.getThreadAllocatedBytes(id);
        long before = threads.getThreadAllocatedBytes(id);
        for (int i = 0; i < ROUNDS; i++) {
            round(x);
        }
        long made = threads.getThreadAllocatedBytes(id) - before;
        // far below a single small array in each round
        CHECK.same("bytes made by " + ROUNDS + " rounds of all calls: " + made, made < ROUNDS * 16L ? 0 : made, 0);
        before = threads.getThreadAllocatedBytes(id);
        new HermitDues();
        made = threads.getThreadAllocatedBytes(id) - before;
        CHECK.same("bytes of a new object: " + made, made < 12000 ? 0 : made, 0);
        CHECK.end();
    }

    private static void round(HermitDues x) {
        x.clear();
        for (int i = 0; i < TEXT.length(); i++) {
            x.type(TEXT.charAt(i));
        }
        x.grotto();
        for (int t = -1; t < 7; t++) {
            x.gives(t, t % 5);
            x.swaps(t, t + 1);
            x.year();
            x.saw(t, t % 4);
            x.most(t);
            x.fair(t);
            x.ways(t);
            x.cheese(t);
            x.free(t);
            x.rather(t);
            x.entry(t, t, t % 2);
            x.odds(t, t % 2);
            x.mark(t, t % 5);
            x.keep(t);
            x.back(t);
            x.count(t);
            x.now(t);
            x.turn(t, t % 3);
            x.family(t, t);
            x.undo();
        }
        x.forget();
        x.trace();
    }
}
