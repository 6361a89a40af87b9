/** Promise 19: touched. */
public final class Promise19TouchedTest {
    public static void main(String[] args) {
        Sentences.run(Promise19TouchedTest.class);
    }

    private static void dueNone(Check check, PachinkoReels reels) {
        for (int place = 0; place < 8; place++) {
            check.due("place " + place, reels.touched(place), PachinkoReels.NONE);
        }
    }

    private static void dueTouched(Check check, PachinkoReels reels, int... columns) {
        for (int row = 0; row < 8; row++) {
            check.due("row " + row, reels.touched(row), 7 * row + columns[row]);
        }
    }

    @Says("NONE if no ball was launched yet")
    static void onANewBoardEachPlaceIsNone(Check check) {
        dueNone(check, new PachinkoReels());
    }

    @Says("NONE if no ball was launched yet")
    static void ballsThatWereBoughtTouchedNone(Check check) {
        PachinkoReels reels = new PachinkoReels();
        reels.buy(9);
        dueNone(check, reels);
    }

    @Says("NONE if no ball was launched yet")
    static void behindARefusedLaunchEachPlaceIsNone(Check check) {
        PachinkoReels reels = new PachinkoReels();
        Check.answerOf(() -> reels.launch(3));
        reels.play(3, 30);
        reels.ifLaunched(3, 0);
        reels.untilOpen(3);
        dueNone(check, reels);
    }

    @Says("NONE if no ball was launched yet")
    static void behindTheUndoneFirstLaunchEachPlaceIsNone(Check check) {
        PachinkoReels reels = new PachinkoReels();
        reels.buy(1);
        reels.launch(3);
        reels.undo();
        dueNone(check, reels);
    }

    @Says("`place`: 0 to 7, from the row 0 on")
    static void thePlaces0To7AreTheRows(Check check) {
        PachinkoReels reels = Lay.oneBall(5);
        reels.launch(5);
        dueTouched(check, reels, 5, 6, 5, 6, 5, 6, 5, 6);
    }

    @Says("Throws `IllegalArgumentException` if place is out of range")
    static void aPlaceOutside0To7IsRefused(Check check) {
        check.refusedOutside(0, 7, Check.ARGUMENT, (reels, place) -> reels.touched(place));
    }

    @Says("Returns 7 times its row and its column, together")
    static void returnsFrom0To55(Check check) {
        PachinkoReels left = new PachinkoReels();
        left.buy(1);
        left.shuffle(Lay.xFor(2, 0, 0, 0, 0, 0, 0, 0, 0));
        left.launch(0);
        dueTouched(check, left, 0, 0, 0, 0, 0, 0, 0, 0);
        PachinkoReels right = Lay.oneBall(6);
        right.launch(6);
        dueTouched(check, right, 6, 6, 6, 6, 6, 6, 6, 6);
    }

    @Says("Returns a pin that the latest ball touched.")
    static void ofSeveralBallsItIsTheLatest(Check check) {
        PachinkoReels reels = Lay.channels(0, 3);
        reels.buy(9);
        reels.launch(0);
        reels.launch(3);
        dueTouched(check, reels, 3, 4, 3, 4, 3, 4, 3, 4);
        reels.play(0, 3);
        dueTouched(check, reels, 0, 1, 0, 1, 0, 1, 0, 1);
    }

    @Says("Returns a pin that the latest ball touched.")
    static void aPinThatIsBentAfterwardsWasTouchedAllTheSame(Check check) {
        PachinkoReels reels = Lay.oneBall(3);
        reels.launch(3);
        reels.bend(0, 3, -1);
        reels.ifLaunched(0, 0);
        dueTouched(check, reels, 3, 4, 3, 4, 3, 4, 3, 4);
    }

    @Says("nothing is changed")
    static void nothingIsChanged(Check check) {
        check.changesNothing(reels -> reels.touched(0) + reels.touched(7));
    }
}
