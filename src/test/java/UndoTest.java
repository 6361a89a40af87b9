import java.util.ArrayList;
import java.util.List;

/** Promises 14 to 16: undo and the snapshot. */
public final class UndoTest {
    private static final Check CHECK = new Check();

    public static void main(String[] args) {
        eachUndoableCall();
        callsThatSaveNothing();
        sixAtMost();
        manyTimes();
        theBufferStays();
        snapshots();
        snapshotsAndUndo();
        nothingThere();
        CHECK.end();
    }

    private static void eachUndoableCall() {
        PachinkoReels reels = Lay.write(new PachinkoReels(), "$40;b03>;b14<;l2x1;l1x9");
        reels.work();
        reels.keep();
        reels.launch(3);
        dueUndone("bend", reels, () -> reels.bend(5, 5, -1));
        dueUndone("bend, no change", reels, () -> reels.bend(5, 5, 0));
        dueUndone("bend straight", reels, () -> reels.bend(0, 3, 0));
        dueUndone("pocket", reels, () -> reels.pocket(4, 2, 11));
        dueUndone("pocket, no change", reels, () -> reels.pocket(4, 1, 10));
        dueUndone("start", reels, () -> reels.start(1));
        dueUndone("set", reels, () -> reels.set(0, 3));
        dueUndone("set", reels, () -> reels.set(1, 3));
        dueUndone("shuffle", reels, () -> reels.shuffle(99));
        dueUndone("buy", reels, () -> reels.buy(7));
        for (int column = 0; column < 7; column++) {
            int at = column;
            dueUndone("launch", reels, () -> reels.launch(at));
            dueUndone("play", reels, () -> reels.play(at, 30));
        }
        dueUndone("work", reels, () -> Lay.write(reels, "l3x30;b00<;$9;b03|;l1x30").work());
        dueUndone("restore", reels, () -> reels.restore());
    }

    private static void dueUndone(String name, PachinkoReels reels, Check.Call call) {
        long before = reels.digest();
        long saved = reels.count(17);
        call.answer();
        CHECK.due("14: " + name + " is saved", reels.count(17), saved + 1);
        CHECK.due("14: left behind " + name, reels.undo(), saved);
        CHECK.due("14: " + name + " is undone", reels.digest(), before);
    }

    private static void callsThatSaveNothing() {
        PachinkoReels reels = new PachinkoReels();
        reels.keep();
        Lay.write(reels, "$1");
        reels.clearBuffer();
        reels.firstError();
        reels.digest();
        reels.ifLaunched(3, 0);
        reels.untilOpen(1);
        CHECK.due("14: nothing saved", reels.count(17), 0);
    }

    private static void sixAtMost() {
        PachinkoReels reels = new PachinkoReels();
        for (int number = 10; number < 20; number++) {
            reels.shuffle(number);
            CHECK.due("22: saved", reels.count(17), Math.min(6, number - 9));
        }
        for (int left = 5; left >= 0; left--) {
            CHECK.due("14: left", reels.undo(), left);
            CHECK.due("14: the latest first", reels.count(13), 13 + left);
        }
        CHECK.throwing("14: the oldest were dropped", reels, Check.STATE, () -> reels.undo());
        CHECK.due("14: none", reels.count(17), 0);
    }

    private static void manyTimes() {
        PachinkoReels reels = new PachinkoReels();
        List<Integer> due = new ArrayList<>();
        int now = 1;
        // three calls a step, of the 512 for which an object is used
        for (int step = 0; step < 160; step++) {
            if (step % 7 < 4 || due.isEmpty()) {
                due.add(now);
                now = 1000 + step;
                reels.shuffle(now);
            } else {
                reels.undo();
                now = due.remove(due.size() - 1);
            }
            if (due.size() > 6) {
                due.remove(0);
            }
            CHECK.due("14: x in step " + step, reels.count(13), now);
            CHECK.due("14: saved in step " + step, reels.count(17), due.size());
        }
    }

    private static void theBufferStays() {
        PachinkoReels reels = Lay.write(new PachinkoReels(), "$1;");
        reels.keep();
        reels.buy(5);
        Lay.write(reels, "$2");
        reels.undo();
        CHECK.due("14: the buffer stays", reels.append(';'), 6);
        reels.restore();
        CHECK.due("16: the buffer stays", reels.clearBuffer(), 6);
    }

    private static void snapshots() {
        PachinkoReels reels = Lay.channels(3);
        reels.buy(8);
        CHECK.due("15: hand", reels.keep(), 8);
        CHECK.due("15: not undoable", reels.count(17), 6);
        long kept = reels.digest();
        reels.play(2, 8);
        reels.buy(99);
        reels.bend(4, 4, 1);
        CHECK.due("16: hand", reels.restore(), 8);
        CHECK.due("16: the state", reels.digest(), kept);
        reels.start(1);
        CHECK.due("16: it stays", reels.restore(), 8);
        CHECK.due("16: the state again", reels.digest(), kept);
        reels.buy(1);
        CHECK.due("15: in place of the one before", reels.keep(), 9);
        reels.buy(1);
        CHECK.due("16: the new one", reels.restore(), 9);
    }

    private static void snapshotsAndUndo() {
        PachinkoReels reels = new PachinkoReels();
        reels.buy(3);
        reels.keep();
        CHECK.due("14: undo leaves the snapshot", reels.undo(), 0);
        CHECK.due("16: ahead of its taking", reels.restore(), 3);
        CHECK.due("16: saved", reels.count(17), 1);
        CHECK.due("14: restore is undone", reels.undo(), 0);
        CHECK.due("22: hand", reels.count(0), 0);
        reels.keep();
        reels.buy(4);
        reels.undo();
        CHECK.due("16: an empty hand", reels.restore(), 0);
    }

    private static void nothingThere() {
        PachinkoReels reels = new PachinkoReels();
        CHECK.throwing("14: none", reels, Check.STATE, () -> reels.undo());
        CHECK.throwing("16: none", reels, Check.STATE, () -> reels.restore());
        reels.buy(1);
        CHECK.throwing("16: none, with a saved state", reels, Check.STATE, () -> reels.restore());
        reels.undo();
        CHECK.throwing("14: none again", reels, Check.STATE, () -> reels.undo());
    }
}
