/** Promise 21: reel. */
public final class Promise21ReelTest {
    public static void main(String[] args) {
        Sentences.run(Promise21ReelTest.class);
    }

    @Says("`reel`: 0 to 2")
    static void theLeastReelIs0AndTheGreatestIs2(Check check) {
        PachinkoReels reels = Lay.waiting(1);
        Lay.spin(reels, 5, 6, 4);
        check.due("reel 0", reels.reel(0), 5);
        check.due("reel 1", reels.reel(1), 6);
        check.due("reel 2", reels.reel(2), 4);
    }

    @Says("Throws `IndexOutOfBoundsException` if there is no such reel")
    static void aReelOutside0To2IsRefused(Check check) {
        check.refusedOutside(0, 2, Check.INDEX, (reels, reel) -> reels.reel(reel));
    }

    @Says("Returns the sign.")
    static void returnsTheSigns0And7(Check check) {
        PachinkoReels reels = Lay.waiting(1);
        Lay.spin(reels, 7, 0, 7);
        check.due("reel 0", reels.reel(0), 7);
        check.due("reel 1", reels.reel(1), 0);
        check.due("reel 2", reels.reel(2), 7);
    }

    @Says("Returns the sign that a reel shows.")
    static void withoutASpinTheFirstSignsStay(Check check) {
        PachinkoReels reels = Lay.oneBall(3);
        reels.launch(3);
        for (int reel = 0; reel < 3; reel++) {
            check.due("reel " + reel, reels.reel(reel), reel);
        }
    }

    @Says("Returns the sign that a reel shows.")
    static void theSignsComeBackWithUndoAndRestore(Check check) {
        PachinkoReels reels = Lay.waiting(1);
        reels.keep();
        Lay.spin(reels, 1, 2, 3);
        reels.undo();
        check.due("behind undo", reels.reel(0), 7);
        Lay.spin(reels, 4, 5, 6);
        reels.restore();
        check.due("behind restore", reels.reel(1), 7);
    }

    @Says("nothing is changed")
    static void nothingIsChanged(Check check) {
        check.changesNothing(reels -> reels.reel(2));
    }
}
