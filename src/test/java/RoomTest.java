import com.sun.management.ThreadMXBean;
import java.lang.management.ManagementFactory;
import java.util.function.ToIntFunction;

/** All calls of a run live in one room: what an object makes of its own, and that calls make nothing more. */
public final class RoomTest extends Steps {
    private static final ThreadMXBean THREADS = (ThreadMXBean) ManagementFactory.getThreadMXBean();
    private static final int TIMES = 100;
    private static final long BYTES_OF_A_WORLD = 4 * 1100;
    private static final long MOST_WORLDS = 40;
    /** The least object has 16 bytes: one in every fourth call would be seen. */
    private static final long MOST_BYTES = 4 * TIMES;

    private final Due due = new Due();

    public static void main(String[] args) {
        RoomTest t = new RoomTest();
        t.anObject();
        t.questions();
        t.acts();
        t.due.end();
    }

    private void anObject() {
        due.about("an object and its history stay small");
        rich(fresh());
        long before = made();
        LookAsideCache x = fresh();
        rich(x);
        for (int n = 0; n < 31; n++) {
            x.tick(1);
        }
        long made = made() - before;
        due.is("made " + made, made < BYTES_OF_A_WORLD * MOST_WORLDS ? 1 : 0, 1);
    }

    private void questions() {
        due.about("a question makes nothing");
        nothing("orders", x -> x.orders(5, 4, 4));
        nothing("witness", x -> x.witness(5, 0));
        nothing("storm", x -> x.storm(63, 4, 1, 0));
        nothing("settled", x -> x.settled(3));
        nothing("best", x -> x.best(0, 4));
        nothing("foreseen", x -> x.foreseen(0, 4));
        nothing("due", x -> x.due(100, 0));
        nothing("hottest", x -> x.hottest(9));
        nothing("plan", x -> x.feed('x') + x.plan(0));
    }

    private void acts() {
        due.about("an act makes nothing more, once 30 may be undone");
        nothing("tick", x -> x.tick(1));
        nothing("get, look, fill", x -> load(x, 0, 4));
        nothing("undo, redo", x -> x.undo() + x.redo());
        nothing("image, back", x -> x.image() + x.back());
        nothing("row, save", x -> x.row(0, 10) + x.save(0, 0, 4));
        nothing("restore", x -> x.restore(0, 0, 10, 4));
    }

    private void nothing(String call, ToIntFunction<LookAsideCache> what) {
        LookAsideCache x = fresh();
        rich(x);
        for (int n = 0; n < 31; n++) {
            x.tick(1);
        }
        what.applyAsInt(x);
        long before = made();
        for (int n = 0; n < TIMES; n++) {
            what.applyAsInt(x);
        }
        long made = made() - before;
        due.is(call + ": made " + made, made < MOST_BYTES ? 1 : 0, 1);
    }

    private static long made() {
        return THREADS.getThreadAllocatedBytes(Thread.currentThread().getId());
    }
}
