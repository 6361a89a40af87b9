/** Promise 16: restore. */
public final class Promise16RestoreTest {
    public static void main(String[] args) {
        Sentences.run(Promise16RestoreTest.class);
    }

    @Says("Throws `IllegalStateException` if there is no snapshot")
    static void withoutASnapshotItIsRefused(Check check) {
        check.refused("new", PachinkoReels::new, Check.STATE, reels -> reels.restore());
        check.refused("with saved states and a text", Promise16RestoreTest::unkept, Check.STATE, reels -> reels.restore());
    }

    private static PachinkoReels unkept() {
        return Lay.write(Lay.held(6, 8), "$1");
    }

    @Says("Restores the state of the snapshot, which stays.")
    static void itCanBeRestoredAgainAndAgain(Check check) {
        PachinkoReels reels = new PachinkoReels();
        reels.buy(7);
        reels.keep();
        for (int times = 0; times < 10; times++) {
            reels.buy(1 + times);
            check.due("hand", reels.restore(), 7);
        }
    }

    @Says("Restores the state of the snapshot, which stays.")
    static void whatComesBehindRestoreDoesNotChangeIt(Check check) {
        PachinkoReels reels = Lay.held(6, 8);
        reels.keep();
        reels.restore();
        reels.launch(2);
        reels.launch(1);
        reels.bend(0, 0, -1);
        reels.bend(0, 6, 1);
        reels.pocket(6, 2, 15);
        reels.restore();
        check.dueSame("state", Told.state(reels), Told.state(Lay.held(6, 8)));
    }

    @Says("all, also x and what is counted so far")
    static void eachPartOfTheStateComesBack(Check check) {
        PachinkoReels reels = Lay.busy();
        reels.keep();
        reels.play(1, 3);
        reels.play(2, 30);
        reels.play(5, 30);
        reels.bend(0, 0, 0);
        reels.bend(6, 6, -1);
        reels.pocket(3, 2, 9);
        reels.start(6);
        reels.set(0, 10);
        reels.set(1, 20);
        reels.restore();
        check.dueSame("state", Told.state(reels), Told.state(Lay.busy()));
    }

    @Says("all, also x and what is counted so far")
    static void all56BentPinsAndThePocket6ComeBack(Check check) {
        PachinkoReels reels = Lay.lastOfAll();
        reels.keep();
        // the first of the 56 becomes the last
        reels.bend(7, 6, 0);
        reels.bend(7, 6, 1);
        reels.launch(0);
        reels.launch(0);
        reels.pocket(6, 0, 1);
        reels.restore();
        check.dueSame("state", Told.state(reels), Told.state(Lay.lastOfAll()));
    }

    @Says("all, also x and what is counted so far")
    static void aSnapshotOfANewObjectHasNoLatestBall(Check check) {
        PachinkoReels reels = new PachinkoReels();
        reels.keep();
        reels.buy(1);
        reels.launch(3);
        reels.restore();
        check.due("the latest pocket", reels.count(11), -1);
        check.due("touched", reels.touched(7), -1);
        check.dueSame("state", Told.state(reels), Told.state(new PachinkoReels()));
    }

    @Says("Returns how many balls are in the hand then.")
    static void returns0IfTheHandWasEmpty(Check check) {
        PachinkoReels reels = new PachinkoReels();
        reels.keep();
        reels.buy(5);
        check.due("hand", reels.restore(), 0);
        check.refused("launch", Promise16RestoreTest::restoredEmpty, Check.STATE, empty -> empty.launch(0));
    }

    private static PachinkoReels restoredEmpty() {
        PachinkoReels reels = new PachinkoReels();
        reels.keep();
        reels.buy(5);
        reels.restore();
        return reels;
    }

    @Says("Returns how many balls are in the hand then.")
    static void returnsTheHandOfTheSnapshotAndNotTheOneBefore(Check check) {
        PachinkoReels reels = Lay.oneBall(0);
        reels.buy(8);
        reels.play(0, 2);
        reels.keep();
        reels.play(0, 3);
        check.due("nine less two", reels.restore(), 7);
        check.due("count", reels.count(0), 7);
    }

    @Says("Undoable.")
    static void undoBringsTheStateBeforeItBack(Check check) {
        check.undoable(Promise16RestoreTest::keptAndPlayed, reels -> reels.restore());
        check.undoable(Lay::busy, reels -> reels.restore());
    }

    private static PachinkoReels keptAndPlayed() {
        PachinkoReels reels = new PachinkoReels();
        reels.keep();
        reels.buy(9);
        reels.play(3, 9);
        return reels;
    }

    @Says("(also if it changes nothing)")
    static void aRestoreThatChangesNothingIsSavedToo(Check check) {
        PachinkoReels reels = new PachinkoReels();
        reels.keep();
        reels.restore();
        check.due("saved", reels.count(17), 1);
        check.due("left", reels.undo(), 0);
    }

    @Says("At most 6 states are saved; the oldest one is dropped first.")
    static void theSavedStatesStayAndTheOldestOfSixIsDropped(Check check) {
        PachinkoReels reels = new PachinkoReels();
        reels.keep();
        for (int x = 100; x < 106; x++) {
            reels.shuffle(x);
        }
        reels.restore();
        check.due("saved", reels.count(17), 6);
        for (int x = 105; x >= 100; x--) {
            reels.undo();
            check.due("x", reels.count(13), x);
        }
        check.due("undo", Check.answerOf(reels::undo), "throws." + Check.STATE);
    }

    @Says("but the buffer, the saved states and the snapshot")
    static void theBufferStaysAsItIs(Check check) {
        PachinkoReels reels = Lay.written("l0");
        reels.keep();
        Lay.write(reels, "x1");
        reels.restore();
        check.due("length", reels.clearBuffer(), 4);
        reels.restore();
        check.due("cleared stays cleared", reels.clearBuffer(), 0);
    }

    @Says("but the buffer, the saved states and the snapshot")
    static void theNumberOfSavedStatesIsNotInIt(Check check) {
        PachinkoReels reels = new PachinkoReels();
        reels.buy(1);
        reels.buy(1);
        reels.keep();
        reels.undo();
        reels.undo();
        reels.restore();
        check.due("saved", reels.count(17), 1);
    }
}
