/** Promise 8: the spins of a launch, the reels, streaks, and balls for which reel pockets are held open. */
public final class Promise08ReelsTest {
    public static void main(String[] args) {
        Sentences.run(Promise08ReelsTest.class);
    }

    private static void dueSigns(Check check, PachinkoReels reels, int... signs) {
        for (int reel = 0; reel < 3; reel++) {
            check.due("reel " + reel, reels.reel(reel), signs[reel]);
        }
    }

    @Says("each ball that comes to it, whatever its kind, lets one spin more wait")
    static void aStartPocketOfEachKindLetsASpinWait(Check check) {
        for (int kind = 0; kind < 3; kind++) {
            PachinkoReels reels = Lay.oneBall(0);
            reels.pocket(0, kind, 0);
            reels.start(0);
            reels.launch(0);
            check.due("spins that wait, kind " + kind, reels.count(6), 1);
        }
    }

    @Says("each ball that comes to it, whatever its kind, lets one spin more wait")
    static void anotherPocketLetsNoneWait(Check check) {
        for (int column : new int[] {0, 1, 2, 4, 5, 6}) {
            PachinkoReels reels = Lay.oneBall(column);
            reels.launch(column);
            check.due("spins that wait, pocket " + column, reels.count(6), 0);
        }
    }

    @Says("lets one spin more wait, at most 4")
    static void theFourthSpinWaitsAndTheFifthDoesNot(Check check) {
        PachinkoReels reels = Lay.held(10, 0);
        for (int waiting = 1; waiting <= 4; waiting++) {
            check.due("spins that wait", reels.count(6), waiting);
            reels.launch(3);
        }
        check.due("behind the fifth ball", reels.count(6), 4);
        reels.launch(3);
        check.due("behind the sixth ball", reels.count(6), 4);
        check.due("all came there", reels.pocketOf(3, 3), 7);
    }

    @Says("if a spin waits, and reel pockets are not held open, one spin is made")
    static void withoutASpinThatWaitsNoneIsMade(Check check) {
        PachinkoReels reels = Lay.oneBall(0);
        reels.launch(0);
        check.due("spins", reels.count(7), 0);
        check.due("x", reels.count(13), 1);
        dueSigns(check, reels, 0, 1, 2);
    }

    @Says("if a spin waits, and reel pockets are not held open, one spin is made")
    static void whileReelPocketsAreHeldOpenNoSpinIsMade(Check check) {
        PachinkoReels reels = Lay.held(1, 0);
        int x = reels.count(13);
        reels.launch(0);
        check.due("spins", reels.count(7), 1);
        check.due("spins that wait", reels.count(6), 1);
        check.due("x", reels.count(13), x);
    }

    @Says("if a spin waits, and reel pockets are not held open, one spin is made")
    static void theBallThatShutsThemMakesNoSpinButTheNextDoes(Check check) {
        PachinkoReels reels = Lay.held(1, 0);
        reels.launch(2);
        check.due("shut", reels.count(9), 0);
        check.due("spins", reels.count(7), 1);
        reels.launch(0);
        check.due("spins behind the next", reels.count(7), 2);
    }

    @Says("one spin is made (it does not wait any more)")
    static void ofFourThatWaitEachLaunchMakesOne(Check check) {
        PachinkoReels reels = Lay.waiting(4);
        for (int made = 1; made <= 4; made++) {
            reels.shuffle(Lay.xFor(8, 1, 2, 3));
            reels.launch(0);
            check.due("spins that wait", reels.count(6), 4 - made);
            check.due("spins", reels.count(7), 1 + made);
        }
        reels.launch(0);
        check.due("none waits any more", reels.count(7), 5);
    }

    @Says("one spin is made (it does not wait any more)")
    static void theOnlySpinThatWaitsIsMade(Check check) {
        PachinkoReels reels = Lay.waiting(1);
        reels.shuffle(Lay.xFor(8, 1, 2, 3));
        reels.launch(0);
        check.due("spins that wait", reels.count(6), 0);
        check.due("spins", reels.count(7), 2);
    }

    @Says("then it lets a spin wait, if it is the start pocket")
    static void theSpinOfTheVeryBallWaitsForTheNext(Check check) {
        PachinkoReels reels = Lay.oneBall(3);
        reels.launch(3);
        check.due("spins", reels.count(7), 0);
        check.due("spins that wait", reels.count(6), 1);
        dueSigns(check, reels, 0, 1, 2);
    }

    @Says("then it lets a spin wait, if it is the start pocket")
    static void ofFourThatWaitOneIsMadeAndOneComes(Check check) {
        PachinkoReels reels = Lay.waiting(4);
        Lay.spin(reels, 1, 2, 3);
        check.due("spins that wait", reels.count(6), 4);
        check.due("spins", reels.count(7), 2);
    }

    @Says("Then the ball falls, comes to its pocket, and is paid, or not")
    static void theSpinComesAheadOfTheBallAndPaysIt(Check check) {
        PachinkoReels reels = Lay.waiting(1);
        reels.shuffle(Lay.xFor(8, 4, 4, 4));
        reels.set(0, 2);
        reels.launch(2);
        check.due("jackpots", reels.count(8), 2);
        check.due("held for one ball less", reels.count(9), 1);
        check.due("paid by the pocket", reels.pocketOf(2, 4), 20);
    }

    @Says("Then the ball falls, comes to its pocket, and is paid, or not")
    static void theSpinDrawsAheadOfTheBall(Check check) {
        PachinkoReels reels = Lay.waiting(1);
        reels.bend(0, 0, 0);
        reels.shuffle(Lay.xFor(8, 1, 2, 3, 1));
        reels.launch(0);
        dueSigns(check, reels, 1, 2, 3);
        check.due("to the right by the fourth draw", reels.touched(1), 7 + 1);
        check.due("x behind four draws", reels.count(13), drawn(4, Lay.xFor(8, 1, 2, 3, 1)));
    }

    private static long drawn(int draws, long from) {
        long x = from;
        for (int draw = 0; draw < draws; draw++) {
            x = Lay.nextX(x);
        }
        return x;
    }

    @Says("A spin draws a number for the reel 0, then 1, then 2: below 8, or below 4 in a streak.")
    static void theSignsAreFrom0To7(Check check) {
        PachinkoReels reels = Lay.waiting(1);
        Lay.spin(reels, 0, 7, 1);
        dueSigns(check, reels, 0, 7, 1);
        Lay.spin(reels, 7, 0, 6);
        dueSigns(check, reels, 7, 0, 6);
        Lay.spin(reels, 4, 5, 3);
        dueSigns(check, reels, 4, 5, 3);
    }

    @Says("A spin draws a number for the reel 0, then 1, then 2: below 8, or below 4 in a streak.")
    static void inAStreakTheSignsAreFrom0To3(Check check) {
        PachinkoReels reels = behindTheHold(20);
        Lay.spin(reels, 4, 7, 5);
        dueSigns(check, reels, 0, 3, 1);
        Lay.spin(reels, 3, 0, 6);
        dueSigns(check, reels, 3, 0, 2);
    }

    /** A streak of so many spins, reel pockets shut, and one spin waits. */
    private static PachinkoReels behindTheHold(int streak) {
        PachinkoReels reels = Lay.held(1, streak);
        reels.launch(2);
        return reels;
    }

    @Says("The reels agree, if all three show the same sign.")
    static void twoThatShowTheSameDoNotAgree(Check check) {
        int[][] signs = {{5, 5, 6}, {5, 6, 5}, {6, 5, 5}, {0, 0, 1}, {0, 7, 7}};
        for (int[] drawn : signs) {
            PachinkoReels reels = Lay.waiting(1);
            Lay.spin(reels, drawn);
            dueSigns(check, reels, drawn);
            check.due("jackpots", reels.count(8), 1);
            check.due("held for", reels.count(9), 0);
        }
    }

    @Says("The reels agree, if all three show the same sign.")
    static void eachSignFrom0To7Agrees(Check check) {
        for (int sign = 0; sign < 8; sign++) {
            PachinkoReels reels = Lay.waiting(1);
            Lay.spin(reels, sign, sign, sign);
            check.due("jackpots", reels.count(8), 2);
            check.due("held for", reels.count(9), 1);
        }
    }

    @Says("When they come to agree by a spin (also if they did so ahead of it)")
    static void aSpinThatAgreesAsTheOneBeforeIsAJackpotToo(Check check) {
        PachinkoReels reels = Lay.waiting(1);
        check.due("they agree ahead of it", reels.reel(0) + reels.reel(1) + reels.reel(2), 21);
        Lay.spin(reels, 7, 7, 7);
        check.due("jackpots", reels.count(8), 2);
        check.due("held for", reels.count(9), 1);
    }

    @Says("reel pockets are held open for setting 0 balls")
    static void heldFor1BallTheyAreShutBehindIt(Check check) {
        dueHeldFor(check, 1);
    }

    @Says("reel pockets are held open for setting 0 balls")
    static void heldFor10BallsTheyAreShutBehindTheTenth(Check check) {
        dueHeldFor(check, 10);
    }

    private static void dueHeldFor(Check check, int balls) {
        PachinkoReels reels = Lay.held(balls, 0);
        for (int ball = 0; ball < balls; ball++) {
            check.due("held for", reels.count(9), balls - ball);
            check.due("pocket 2 is open", reels.pocketOf(2, 2), 1);
            check.due("pocket 4 is open", reels.pocketOf(4, 2), 1);
            reels.launch(ball % 2 == 0 ? 2 : 4);
        }
        check.due("held for, behind the last", reels.count(9), 0);
        check.due("each was paid", reels.pocketOf(2, 4) + reels.pocketOf(4, 4), 10 * balls);
        check.due("both are shut", reels.pocketOf(2, 2) + reels.pocketOf(4, 2), 0);
    }

    @Says("a jackpot is counted")
    static void eachAgreementIsOneJackpot(Check check) {
        PachinkoReels reels = Lay.waiting(1);
        check.due("one", reels.count(8), 1);
        Lay.spin(reels, 1, 1, 1);
        check.due("two", reels.count(8), 2);
        reels.launch(2);
        Lay.spin(reels, 1, 1, 2);
        check.due("two yet", reels.count(8), 2);
    }

    @Says("a streak begins, or begins anew: the next setting 1 spins are in it")
    static void aStreakOf0SpinsHasNoneInIt(Check check) {
        PachinkoReels reels = behindTheHold(0);
        Lay.spin(reels, 4, 6, 7);
        dueSigns(check, reels, 4, 6, 7);
        check.due("spins in the streak", reels.count(10), 0);
    }

    @Says("a streak begins, or begins anew: the next setting 1 spins are in it")
    static void aStreakOf1SpinHasTheNextAlone(Check check) {
        dueStreakOf(check, 1);
    }

    @Says("a streak begins, or begins anew: the next setting 1 spins are in it")
    static void aStreakOf20SpinsHasTheTwentiethAndNotTheNext(Check check) {
        dueStreakOf(check, 20);
    }

    private static void dueStreakOf(Check check, int spins) {
        PachinkoReels reels = behindTheHold(spins);
        for (int spin = 0; spin < spins; spin++) {
            check.due("spins in the streak", reels.count(10), spins - spin);
            Lay.spin(reels, 4, 6, 7);
            dueSigns(check, reels, 0, 2, 3);
        }
        check.due("the streak is over", reels.count(10), 0);
        Lay.spin(reels, 4, 6, 7);
        dueSigns(check, reels, 4, 6, 7);
        check.due("it is not below 0", reels.count(10), 0);
    }

    @Says("a streak begins, or begins anew: the next setting 1 spins are in it")
    static void inAStreakItBeginsAnewWithAllItsSpins(Check check) {
        PachinkoReels reels = behindTheHold(3);
        Lay.spin(reels, 4, 6, 7);
        check.due("one shorter", reels.count(10), 2);
        Lay.spin(reels, 5, 1, 5);
        dueSigns(check, reels, 1, 1, 1);
        check.due("anew", reels.count(10), 3);
    }

    @Says("a spin in a streak makes it one spin shorter, ahead of what is told above")
    static void theLastSpinOfAStreakIsInItAndCanBeginItAnew(Check check) {
        PachinkoReels reels = behindTheHold(1);
        Lay.spin(reels, 5, 1, 5);
        dueSigns(check, reels, 1, 1, 1);
        check.due("jackpots", reels.count(8), 2);
        check.due("the streak is as long as the setting", reels.count(10), 1);
        check.due("held for", reels.count(9), 1);
    }

    @Says("a spin in a streak makes it one spin shorter, ahead of what is told above")
    static void aLaunchWithoutASpinLeavesTheStreak(Check check) {
        PachinkoReels reels = Lay.held(6, 5);
        reels.launch(3);
        reels.launch(2);
        reels.launch(0);
        check.due("spins in the streak", reels.count(10), 5);
    }

    @Says("By a spin behind which they do not agree, reel pockets are shut")
    static void behindASpinThatDoesNotAgreeTheyAreShut(Check check) {
        PachinkoReels reels = Lay.waiting(1);
        reels.shuffle(Lay.xFor(8, 7, 7, 6));
        reels.launch(2);
        check.due("held for", reels.count(9), 0);
        check.due("pocket 2", reels.pocketOf(2, 2), 0);
        check.due("the ball is not paid", reels.count(4), 1);
        check.due("no streak", reels.count(10), 0);
    }

    @Says("Each ball that comes to a reel pocket that is open makes the balls for which they are held open 1 less")
    static void aBallAtAnotherPocketTakesNone(Check check) {
        PachinkoReels reels = Lay.held(1, 0);
        reels.launch(0);
        reels.launch(1);
        reels.launch(1);
        reels.launch(3);
        check.due("held for", reels.count(9), 1);
    }

    @Says("Each ball that comes to a reel pocket that is open makes the balls for which they are held open 1 less")
    static void aBallThatIsPaid0TakesOneToo(Check check) {
        PachinkoReels reels = Lay.held(2, 0);
        reels.pocket(2, 1, 0);
        reels.launch(2);
        check.due("held for", reels.count(9), 1);
    }

    @Says("at 0 they are shut")
    static void theBallThatShutsThemIsPaidAndTheNextIsNot(Check check) {
        PachinkoReels reels = Lay.held(1, 0);
        reels.shuffle(Lay.xFor(8, 1, 2, 3));
        reels.launch(2);
        check.due("paid", reels.pocketOf(2, 4), 10);
        check.due("shut", reels.pocketOf(2, 2), 0);
        reels.launch(2);
        check.due("paid yet", reels.pocketOf(2, 4), 10);
        check.due("reason 1", reels.count(4), 1);
    }

    @Says("at 0 they are shut")
    static void aBallAtAShutReelPocketDoesNotMakeItLessThan0(Check check) {
        PachinkoReels reels = Lay.oneBall(2);
        reels.launch(2);
        check.due("held for", reels.count(9), 0);
    }
}
