import com.sun.management.ThreadMXBean;
import java.lang.management.ManagementFactory;

/** A run's room: a call makes no object, once the boards for saved states and the snapshot are made. */
public final class RoomTest {
    private static final Check CHECK = new Check();
    private static final int FIRST_CALLS = 10;
    private static final int MORE_CALLS = 100;
    // less than one object a call
    private static final long MOST_BYTES = 1000;

    public static void main(String[] args) {
        dueEmpty("digest", Lay.busy(), reels -> reels.digest());
        dueEmpty("untilOpen", Lay.channels(0), reels -> reels.untilOpen(0));
        dueEmpty("ways and walked", new PachinkoReels(), reels -> reels.ways(3, 3) + reels.walked(3, 3));
        dueEmpty("ifLaunched", new PachinkoReels(), reels -> reels.ifLaunched(3, 1));
        dueEmpty("bestColumn", new PachinkoReels(), reels -> reels.bestColumn());
        dueEmpty("play", Lay.paid(15, 1), reels -> reels.play(3, 30));
        dueEmpty("bend", new PachinkoReels(), reels -> reels.bend(3, 3, 1));
        dueEmpty("keep and restore", new PachinkoReels(), reels -> reels.keep() + reels.restore());
        dueEmpty("set and undo", new PachinkoReels(), reels -> reels.set(0, 5) + reels.undo());
        dueEmpty("append, firstError and work", new PachinkoReels(),
                reels -> reels.append('$') + reels.append('9') + reels.firstError() + reels.work());
        CHECK.end();
    }

    private static void dueEmpty(String name, PachinkoReels reels, Check.CallOn call) {
        ask(reels, call, FIRST_CALLS);
        ThreadMXBean threads = (ThreadMXBean) ManagementFactory.getThreadMXBean();
        long before = threads.getCurrentThreadAllocatedBytes();
        ask(reels, call, MORE_CALLS);
        long made = threads.getCurrentThreadAllocatedBytes() - before;
        CHECK.due(name + " made " + made + " bytes", made < MOST_BYTES ? "nothing" : "something", "nothing");
    }

    private static void ask(PachinkoReels reels, Check.CallOn call, int calls) {
        for (int i = 0; i < calls; i++) {
            call.answer(reels);
        }
    }
}
