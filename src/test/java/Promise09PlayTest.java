/** Promise 9: play. */
public final class Promise09PlayTest {
    public static void main(String[] args) {
        Sentences.run(Promise09PlayTest.class);
    }

    @Says("`column`: 0 to 6")
    static void theLeastColumnIs0(Check check) {
        PachinkoReels reels = Lay.oneBall(0);
        reels.play(0, 1);
        check.due("the latest pocket", reels.count(11), 0);
        check.due("the top pin", reels.touched(0), 0);
    }

    @Says("`column`: 0 to 6")
    static void theGreatestColumnIs6(Check check) {
        PachinkoReels reels = Lay.oneBall(6);
        reels.play(6, 1);
        check.due("the latest pocket", reels.count(11), 6);
        check.due("the top pin", reels.touched(0), 6);
    }

    @Says("`balls`: 1 to 30")
    static void theLeastIs1Ball(Check check) {
        dueLaunched(check, 1, 99, 1);
    }

    @Says("`balls`: 1 to 30")
    static void theGreatestIs30Balls(Check check) {
        dueLaunched(check, 30, 99, 30);
    }

    @Says("`balls`: 1 to 30")
    static void eachNumberOfBallsIsLaunched(Check check) {
        for (int balls = 1; balls <= 30; balls++) {
            dueLaunched(check, balls, 31, balls);
        }
    }

    private static void dueLaunched(Check check, int balls, int hand, int due) {
        PachinkoReels reels = Lay.channels(0);
        reels.buy(hand);
        check.due("paid", reels.play(0, balls), 0);
        check.due("launches", reels.count(2), due);
        check.due("hand", reels.count(0), hand - due);
    }

    @Says("as far as balls are in the hand")
    static void ofFewerBallsInTheHandAllAreLaunched(Check check) {
        dueLaunched(check, 30, 29, 29);
        dueLaunched(check, 2, 1, 1);
    }

    @Says("as far as balls are in the hand")
    static void ofAsManyBallsInTheHandAllAreLaunched(Check check) {
        dueLaunched(check, 30, 30, 30);
        dueLaunched(check, 1, 1, 1);
    }

    @Says("as far as balls are in the hand")
    static void withoutABallNoneIsLaunched(Check check) {
        PachinkoReels reels = new PachinkoReels();
        check.due("paid", reels.play(3, 30), 0);
        check.due("launches", reels.count(2), 0);
        check.due("hand", reels.count(0), 0);
        check.due("the latest pocket", reels.count(11), -1);
        check.due("touched", reels.touched(0), -1);
        check.due("x", reels.count(13), 1);
    }

    @Says("as far as balls are in the hand")
    static void ballsThatArePaidInBetweenAreLaunchedToo(Check check) {
        PachinkoReels reels = Lay.oneBall(0);
        reels.pocket(0, 0, 1);
        check.due("paid", reels.play(0, 30), 30);
        check.due("launches", reels.count(2), 30);
        check.due("hand", reels.count(0), 1);
    }

    @Says("as far as balls are in the hand")
    static void itEndsWhereTheHandIsEmptyThoughBallsWerePaidBefore(Check check) {
        PachinkoReels reels = Lay.oneBall(1);
        reels.buy(1);
        // shut, 3 paid, shut, 3 paid, .. : two balls launched for three that are paid
        check.due("paid", reels.play(1, 4), 6);
        check.due("launches", reels.count(2), 4);
        check.due("hand", reels.count(0), 4);
        reels.pocket(1, 2, 1);
        // of 4: shut 3, paid 3, shut 2, paid 2, shut 1, paid 1, shut 0
        check.due("paid by ones", reels.play(1, 30), 3);
        check.due("launches then", reels.count(2), 11);
        check.due("hand then", reels.count(0), 0);
    }

    @Says("as far as balls are in the hand")
    static void withoutABallAWaitingSpinIsNotMade(Check check) {
        PachinkoReels reels = Lay.oneBall(3);
        reels.pocket(3, 0, 0);
        reels.launch(3);
        reels.play(3, 5);
        check.due("spins that wait", reels.count(6), 1);
        check.due("spins", reels.count(7), 0);
    }

    @Says("one after the other")
    static void eachBallMakesTheSpinThatTheOneBeforeLetWait(Check check) {
        PachinkoReels reels = Lay.channels(3);
        reels.buy(9);
        reels.shuffle(Lay.xFor(8, 0, 1, 2, 3, 4, 5));
        reels.play(3, 3);
        check.due("spins", reels.count(7), 2);
        check.due("the sign of reel 0", reels.reel(0), 3);
        check.due("the sign of reel 2", reels.reel(2), 5);
        check.due("spins that wait", reels.count(6), 1);
    }

    @Says("Throws `IndexOutOfBoundsException` if there is no such column")
    static void aColumnOutside0To6IsRefused(Check check) {
        check.refusedOutside(0, 6, Check.INDEX, (reels, column) -> reels.play(column, 1));
        check.refusedOutside(0, 6, Check.INDEX, (reels, column) -> reels.play(column, 30));
    }

    @Says("Throws `IllegalArgumentException` if balls is out of range")
    static void ballsOutside1To30AreRefused(Check check) {
        check.refusedOutside(1, 30, Check.ARGUMENT, (reels, balls) -> reels.play(0, balls));
        check.refusedOutside(1, 30, Check.ARGUMENT, (reels, balls) -> reels.play(6, balls));
    }

    @Says("If several exceptions apply, the one that is named first in the throws clause is thrown.")
    static void noSuchColumnAndBallsOutOfRangeIsNoSuchColumn(Check check) {
        check.refusedOutside(0, 6, Check.INDEX, (reels, column) -> reels.play(column, 0));
        check.refusedOutside(0, 6, Check.INDEX, (reels, column) -> reels.play(column, 31));
    }

    @Says("Returns how many balls are paid in them, together.")
    static void returnsAllThatIsPaidAndNotTheLastAlone(Check check) {
        PachinkoReels reels = Lay.channels(3);
        reels.pocket(3, 0, 15);
        reels.buy(1);
        check.due("one", reels.play(3, 1), 15);
        check.due("thirty", reels.play(3, 30), 450);
        check.due("hand", reels.count(0), 1 + 31 * 14);
    }

    @Says("Returns how many balls are paid in them, together.")
    static void returns0IfNoneIsPaid(Check check) {
        PachinkoReels reels = Lay.channels(2);
        reels.buy(9);
        check.due("at a shut pocket", reels.play(2, 4), 0);
        check.due("the hand is empty behind it", reels.play(2, 30), 0);
        check.due("without a ball", reels.play(2, 1), 0);
    }

    @Says("Undoable, as one call, also if none is launched.")
    static void allBallsAreUndoneAsOneCall(Check check) {
        PachinkoReels reels = new PachinkoReels();
        reels.buy(40);
        reels.play(3, 30);
        check.due("saved", reels.count(17), 2);
        check.due("left", reels.undo(), 1);
        check.due("launches", reels.count(2), 0);
        check.due("hand", reels.count(0), 40);
        check.undoable(Lay::busy, busy -> busy.play(3, 30));
    }

    @Says("Undoable, as one call, also if none is launched.")
    static void aCallThatLaunchesNoneIsUndoneAsOneCallToo(Check check) {
        PachinkoReels reels = new PachinkoReels();
        reels.play(3, 30);
        check.due("saved", reels.count(17), 1);
        check.due("left", reels.undo(), 0);
        check.undoable(fresh -> fresh.play(6, 1));
    }
}
