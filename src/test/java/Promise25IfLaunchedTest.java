/** Promise 25: ifLaunched. */
public final class Promise25IfLaunchedTest {
    public static void main(String[] args) {
        Sentences.run(Promise25IfLaunchedTest.class);
    }

    private static void dueIf(Check check, PachinkoReels reels, int column, int... due) {
        for (int what = 0; what < 4; what++) {
            check.due("from " + column + ", what " + what, reels.ifLaunched(column, what), due[what]);
        }
    }

    @Says("`column`: 0 to 6")
    static void theLeastColumnIs0(Check check) {
        dueIf(check, Lay.channels(0), 0, 0, 0, 0, 0);
    }

    @Says("`column`: 0 to 6")
    static void theGreatestColumnIs6(Check check) {
        dueIf(check, Lay.channels(6), 6, 6, 0, 0, 0);
    }

    @Says("Throws `IndexOutOfBoundsException` if there is no such column")
    static void aColumnOutside0To6IsRefused(Check check) {
        for (int what = 0; what < 4; what++) {
            int asked = what;
            check.refusedOutside(0, 6, Check.INDEX, (reels, column) -> reels.ifLaunched(column, asked));
        }
    }

    @Says("Throws `IllegalArgumentException` if what is not 0 to 3")
    static void aWhatOutside0To3IsRefused(Check check) {
        check.refusedOutside(0, 3, Check.ARGUMENT, (reels, what) -> reels.ifLaunched(0, what));
        check.refusedOutside(0, 3, Check.ARGUMENT, (reels, what) -> reels.ifLaunched(6, what));
    }

    @Says("If several exceptions apply, the one that is named first in the throws clause is thrown.")
    static void noSuchColumnAndNoSuchWhatIsNoSuchColumn(Check check) {
        check.refusedOutside(0, 6, Check.INDEX, (reels, column) -> reels.ifLaunched(column, 4));
        check.refusedOutside(0, 6, Check.INDEX, (reels, column) -> reels.ifLaunched(column, -1));
    }

    @Says("Tells what a launch would bring, also without a ball in the hand.")
    static void withoutABallItIsToldAsWithOne(Check check) {
        PachinkoReels reels = Lay.channels(3);
        check.due("hand", reels.count(0), 0);
        dueIf(check, reels, 3, 3, 2, 1, 0);
        reels.buy(1);
        dueIf(check, reels, 3, 3, 2, 1, 0);
        check.due("hand then", reels.count(0), 1);
    }

    @Says("Tells what a launch would bring, also without a ball in the hand.")
    static void theLaunchThenBringsJustThat(Check check) {
        PachinkoReels reels = new PachinkoReels();
        reels.buy(40);
        for (int launch = 0; launch < 60 && reels.count(0) > 0; launch++) {
            int column = launch % 7;
            int[] told = new int[4];
            for (int what = 0; what < 4; what++) {
                told[what] = reels.ifLaunched(column, what);
            }
            int hand = reels.count(0);
            check.due("pocket", reels.launch(column), told[0]);
            check.due("paid", reels.count(0) - hand + 1, told[1]);
        }
    }

    @Says("1: balls that would be paid")
    static void aPayOf0AndOf15WouldBePaid(Check check) {
        PachinkoReels reels = Lay.channels(0);
        check.due("0", reels.ifLaunched(0, 1), 0);
        reels.pocket(0, 0, 15);
        check.due("15", reels.ifLaunched(0, 1), 15);
    }

    @Says("1: balls that would be paid")
    static void aShutPocketWouldPayNone(Check check) {
        PachinkoReels reels = Lay.oneBall(1, 2);
        check.due("a shut reel pocket", reels.ifLaunched(2, 1), 0);
        check.due("a shut tulip", reels.ifLaunched(1, 1), 0);
        reels.launch(1);
        check.due("an open tulip", reels.ifLaunched(1, 1), 3);
    }

    @Says("2: spins that would wait then")
    static void ofFourThatWaitOneWouldBeMade(Check check) {
        PachinkoReels reels = Lay.waiting(4);
        reels.shuffle(Lay.xFor(8, 1, 2, 3));
        dueIf(check, reels, 0, 0, 0, 3, 0);
        dueIf(check, reels, 3, 3, 2, 4, 0);
        check.due("four wait yet", reels.count(6), 4);
    }

    @Says("2: spins that would wait then")
    static void whileHeldOpenAtMostFourWouldWait(Check check) {
        PachinkoReels reels = Lay.held(10, 0);
        for (int waiting = 1; waiting <= 4; waiting++) {
            check.due("at another pocket", reels.ifLaunched(0, 2), waiting);
            check.due("at the start pocket", reels.ifLaunched(3, 2), Math.min(4, waiting + 1));
            reels.launch(3);
        }
    }

    @Says("3: balls for which reel pockets would be held open then")
    static void theLastBallWouldShutThem(Check check) {
        PachinkoReels reels = Lay.held(1, 0);
        dueIf(check, reels, 0, 0, 0, 1, 1);
        dueIf(check, reels, 2, 2, 10, 1, 0);
    }

    @Says("3: balls for which reel pockets would be held open then")
    static void theSpinOfTheLaunchWouldHoldThem(Check check) {
        PachinkoReels reels = Lay.waiting(1);
        reels.set(0, 10);
        reels.shuffle(Lay.xFor(8, 6, 6, 6));
        dueIf(check, reels, 0, 0, 0, 0, 10);
        dueIf(check, reels, 2, 2, 10, 0, 9);
        reels.set(0, 1);
        dueIf(check, reels, 2, 2, 10, 0, 0);
        reels.shuffle(Lay.xFor(8, 6, 6, 5));
        dueIf(check, reels, 2, 2, 0, 0, 0);
    }

    @Says("0: the pocket;")
    static void thePocketWouldBe0To6(Check check) {
        for (int column = 0; column < 7; column++) {
            check.due("pocket", Lay.channels(column).ifLaunched(column, 0), column);
        }
    }

    @Says("Returns the number.")
    static void askedAgainItIsTheSame(Check check) {
        PachinkoReels reels = Lay.busy();
        for (int column = 0; column < 7; column++) {
            for (int what = 0; what < 4; what++) {
                check.due("again", reels.ifLaunched(column, what), Lay.busy().ifLaunched(column, what));
            }
        }
    }

    @Says("nothing is changed")
    static void nothingIsChanged(Check check) {
        check.changesNothing(reels -> reels.ifLaunched(1, 0));
        check.changesNothing(reels -> reels.ifLaunched(2, 3));
        check.changesNothing(reels -> reels.ifLaunched(3, 2));
        check.changesNothing(reels -> reels.ifLaunched(6, 1));
    }
}
