/** Promise 15: keep. */
public final class Promise15KeepTest {
    public static void main(String[] args) {
        Sentences.run(Promise15KeepTest.class);
    }

    @Says("Returns how many balls are in the hand.")
    static void returns0ForAnEmptyHand(Check check) {
        check.due("hand", new PachinkoReels().keep(), 0);
        PachinkoReels spent = Lay.oneBall(0);
        spent.launch(0);
        check.due("spent", spent.keep(), 0);
    }

    @Says("Returns how many balls are in the hand.")
    static void returnsTheHandAndNotWhatWasBoughtOrPaid(Check check) {
        PachinkoReels reels = Lay.oneBall(3);
        reels.buy(4);
        reels.launch(3);
        check.due("five less one and two", reels.keep(), 6);
    }

    @Says("Takes a snapshot, in place of the one before.")
    static void theFirstSnapshotIsTakenOfANewObject(Check check) {
        PachinkoReels reels = new PachinkoReels();
        reels.keep();
        reels.buy(9);
        check.due("hand", reels.restore(), 0);
    }

    @Says("Takes a snapshot, in place of the one before.")
    static void theOneBeforeIsGone(Check check) {
        PachinkoReels reels = new PachinkoReels();
        reels.buy(1);
        reels.keep();
        reels.buy(1);
        reels.keep();
        reels.buy(1);
        check.due("the second", reels.restore(), 2);
        check.due("the second again", reels.restore(), 2);
    }

    @Says("Takes a snapshot, in place of the one before.")
    static void whatComesBehindItIsNotInIt(Check check) {
        PachinkoReels reels = Lay.held(6, 8);
        reels.keep();
        reels.launch(2);
        reels.launch(1);
        reels.bend(0, 6, 1);
        reels.pocket(6, 2, 15);
        reels.restore();
        check.dueSame("state", Told.state(reels), Told.state(Lay.held(6, 8)));
    }

    @Says("Takes a snapshot, in place of the one before.")
    static void theBoardItselfStays(Check check) {
        PachinkoReels reels = Lay.busy();
        reels.keep();
        check.dueSame("state", Told.state(reels), Told.state(Lay.busy()));
    }

    @Says("but the buffer, the saved states and the snapshot")
    static void theBufferIsNotInIt(Check check) {
        PachinkoReels reels = Lay.written("l0");
        reels.keep();
        Lay.write(reels, "x1");
        reels.restore();
        check.due("length", reels.clearBuffer(), 4);
    }

    @Says("Each method that is marked \"undoable\" and does not throw an exception saves the state from before it")
    static void itIsNotUndoable(Check check) {
        PachinkoReels reels = new PachinkoReels();
        reels.keep();
        check.due("saved", reels.count(17), 0);
        check.due("undo", Check.answerOf(reels::undo), "throws." + Check.STATE);
        reels.buy(1);
        reels.keep();
        check.due("left behind undo", reels.undo(), 0);
        check.due("hand", reels.count(0), 0);
        check.due("the snapshot is not undone", reels.restore(), 1);
    }
}
