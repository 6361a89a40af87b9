/** Promise 8: launch, and how its ball falls and is paid. What its spins bring is told in the tests of the reels. */
public final class Promise08LaunchTest {
    public static void main(String[] args) {
        Sentences.run(Promise08LaunchTest.class);
    }

    @Says("`column`: 0 to 6")
    static void theLeastColumnIs0(Check check) {
        PachinkoReels reels = Lay.oneBall(0);
        check.due("pocket", reels.launch(0), 0);
        check.due("the top pin", reels.touched(0), 0);
    }

    @Says("`column`: 0 to 6")
    static void theGreatestColumnIs6(Check check) {
        PachinkoReels reels = Lay.oneBall(6);
        check.due("pocket", reels.launch(6), 6);
        check.due("the top pin", reels.touched(0), 6);
    }

    @Says("Throws `IndexOutOfBoundsException` if there is no such column")
    static void aColumnOutside0To6IsRefused(Check check) {
        int[] values = {-1, 7, -7, 56, Integer.MIN_VALUE, Integer.MAX_VALUE};
        for (int column : values) {
            check.refused("one ball, " + column, () -> Lay.oneBall(3), Check.INDEX, reels -> reels.launch(column));
            check.refused("busy, " + column, Lay::busy, Check.INDEX, reels -> reels.launch(column));
        }
    }

    @Says("Throws `IllegalStateException` if no ball is in the hand")
    static void withoutABallItIsRefused(Check check) {
        for (int column = 0; column < 7; column++) {
            int at = column;
            check.refused("new", PachinkoReels::new, Check.STATE, reels -> reels.launch(at));
        }
    }

    @Says("Throws `IllegalStateException` if no ball is in the hand")
    static void behindTheLastBallItIsRefused(Check check) {
        check.refused("spent", Promise08LaunchTest::spent, Check.STATE, reels -> reels.launch(0));
        check.refused("spent, another column", Promise08LaunchTest::spent, Check.STATE, reels -> reels.launch(3));
    }

    private static PachinkoReels spent() {
        PachinkoReels reels = Lay.oneBall(0, 3);
        reels.launch(0);
        return Lay.write(reels, "l0x1");
    }

    @Says("Throws `IllegalStateException` if no ball is in the hand")
    static void withoutABallAWaitingSpinIsNotMade(Check check) {
        check.refused("a spin waits", Promise08LaunchTest::spentWithASpin, Check.STATE, reels -> reels.launch(3));
        check.due("spins that wait", spentWithASpin().count(6), 1);
    }

    private static PachinkoReels spentWithASpin() {
        PachinkoReels reels = Lay.oneBall(3);
        reels.pocket(3, 0, 0);
        reels.launch(3);
        return reels;
    }

    @Says("If several exceptions apply, the one that is named first in the throws clause is thrown.")
    static void noSuchColumnAndNoBallIsNoSuchColumn(Check check) {
        for (int column : new int[] {-1, 7, Integer.MIN_VALUE, Integer.MAX_VALUE}) {
            check.refused("new, " + column, PachinkoReels::new, Check.INDEX, reels -> reels.launch(column));
            check.refused("spent, " + column, Promise08LaunchTest::spent, Check.INDEX, reels -> reels.launch(column));
        }
    }

    @Says("A launch takes one ball out of the hand.")
    static void theLastBallLeavesTheHandEmpty(Check check) {
        PachinkoReels reels = Lay.oneBall(0);
        reels.launch(0);
        check.due("hand", reels.count(0), 0);
        check.due("launches", reels.count(2), 1);
        check.due("bought", reels.count(1), 1);
    }

    @Says("as many balls as the pocket pays come to the hand")
    static void aPayOf1BringsTheLastBallBack(Check check) {
        PachinkoReels reels = Lay.oneBall(0);
        reels.pocket(0, 0, 1);
        reels.launch(0);
        check.due("hand", reels.count(0), 1);
        check.due("it can be launched again", reels.launch(0), 0);
    }

    @Says("as many balls as the pocket pays come to the hand")
    static void eachPayFrom0To15ComesToTheHand(Check check) {
        for (int pay = 0; pay <= 15; pay++) {
            PachinkoReels reels = Lay.oneBall(0);
            reels.pocket(0, 0, pay);
            reels.launch(0);
            check.due("hand", reels.count(0), pay);
            check.due("paid so far", reels.count(3), pay);
            check.due("paid by the pocket", reels.pocketOf(0, 4), pay);
        }
    }

    @Says("Launches a ball.")
    static void oneBallIsLaunchedThoughManyAreInTheHand(Check check) {
        PachinkoReels reels = Lay.channels(0);
        reels.buy(99);
        reels.launch(0);
        check.due("launches", reels.count(2), 1);
        check.due("hand", reels.count(0), 98);
        check.due("came", reels.pocketOf(0, 3), 1);
    }

    @Says("Returns the pocket to which it comes.")
    static void returnsEachPocketFrom0To6(Check check) {
        for (int column = 0; column < 7; column++) {
            PachinkoReels reels = Lay.oneBall(column);
            check.due("pocket", reels.launch(column), column);
            check.due("the latest pocket", reels.count(11), column);
            check.due("balls that came to it", reels.pocketOf(column, 3), 1);
        }
    }

    @Says("it touches the pin there in the row 0, goes to a column, touches the pin there in the row 1, and so on, to the row 7")
    static void itTouchesOnePinInEachRowFrom0To7(Check check) {
        PachinkoReels reels = Lay.oneBall(2);
        reels.launch(2);
        dueTouched(check, reels, 2, 3, 2, 3, 2, 3, 2, 3);
    }

    @Says("the column to which it goes then is its pocket")
    static void thePinInTheRow7LeadsToThePocket(Check check) {
        PachinkoReels reels = Lay.oneBall(2);
        reels.bend(7, 3, 1);
        check.due("to the right", reels.launch(2), 4);
        check.due("the last pin", reels.touched(7), 7 * 7 + 3);
    }

    private static void dueTouched(Check check, PachinkoReels reels, int... columns) {
        for (int row = 0; row < 8; row++) {
            check.due("row " + row, reels.touched(row), 7 * row + columns[row]);
        }
    }

    @Says("At a pin in the column c it goes to c less 1, if the pin is bent to the left")
    static void overPinsBentToTheLeftItGoesToTheLeft(Check check) {
        PachinkoReels reels = allBent(-1);
        check.due("pocket", reels.launch(6), 0);
        dueTouched(check, reels, 6, 5, 4, 3, 2, 1, 0, 0);
        check.due("x, without a draw", reels.count(13), 1);
    }

    @Says("to c and 1, if it is bent to the right")
    static void overPinsBentToTheRightItGoesToTheRight(Check check) {
        PachinkoReels reels = allBent(1);
        check.due("pocket", reels.launch(0), 6);
        dueTouched(check, reels, 0, 1, 2, 3, 4, 5, 6, 6);
        check.due("x, without a draw", reels.count(13), 1);
    }

    private static PachinkoReels allBent(int to) {
        PachinkoReels reels = new PachinkoReels();
        for (int pin = 0; pin < 56; pin++) {
            reels.bend(pin / 7, pin % 7, to);
        }
        reels.buy(9);
        return reels;
    }

    @Says("If that is not 0 to 6, it stays in the column c.")
    static void atAPinBentToTheLeftInTheColumn0ItStays(Check check) {
        PachinkoReels reels = allBent(-1);
        check.due("pocket", reels.launch(0), 0);
        dueTouched(check, reels, 0, 0, 0, 0, 0, 0, 0, 0);
    }

    @Says("If that is not 0 to 6, it stays in the column c.")
    static void atAPinBentToTheRightInTheColumn6ItStays(Check check) {
        PachinkoReels reels = allBent(1);
        check.due("pocket", reels.launch(6), 6);
        dueTouched(check, reels, 6, 6, 6, 6, 6, 6, 6, 6);
    }

    @Says("If that is not 0 to 6, it stays in the column c.")
    static void atAStraightPinInTheColumn0ItStaysIfA0IsDrawn(Check check) {
        PachinkoReels reels = drawing(0, 0, 1, 0, 0, 0, 1, 1);
        check.due("pocket", reels.launch(0), 2);
        dueTouched(check, reels, 0, 0, 0, 1, 0, 0, 0, 1);
    }

    @Says("If that is not 0 to 6, it stays in the column c.")
    static void atAStraightPinInTheColumn6ItStaysIfA1IsDrawn(Check check) {
        PachinkoReels reels = drawing(1, 1, 0, 1, 1, 1, 0, 0);
        check.due("pocket", reels.launch(6), 4);
        dueTouched(check, reels, 6, 6, 6, 5, 6, 6, 6, 5);
    }

    @Says("0 means c less 1, 1 means c and 1")
    static void atStraightPinsA0IsToTheLeftAndA1ToTheRight(Check check) {
        PachinkoReels reels = drawing(0, 1, 1, 0, 1, 0, 0, 1);
        check.due("pocket", reels.launch(3), 3);
        dueTouched(check, reels, 3, 2, 3, 4, 3, 4, 3, 2);
    }

    /** Straight pins, at which the next ball draws these numbers. */
    private static PachinkoReels drawing(int... numbers) {
        PachinkoReels reels = new PachinkoReels();
        reels.buy(1);
        reels.shuffle(Lay.xFor(2, numbers));
        return reels;
    }

    @Says("at a straight one a number below 2 is drawn")
    static void eachStraightPinDrawsOnceAndABentOneNever(Check check) {
        PachinkoReels reels = new PachinkoReels();
        for (int column = 0; column < 7; column++) {
            reels.bend(0, column, 1);
            reels.bend(3, column, -1);
            reels.bend(7, column, 1);
        }
        reels.buy(1);
        reels.launch(3);
        long x = 1;
        for (int straight = 0; straight < 5; straight++) {
            x = Lay.nextX(x);
        }
        check.due("x behind five draws", reels.count(13), x);
    }

    @Says("0 plain: it is always open")
    static void aPlainPocketStaysOpenBehindABall(Check check) {
        PachinkoReels reels = Lay.oneBall(3);
        for (int ball = 1; ball <= 5; ball++) {
            reels.launch(3);
            check.due("open", reels.pocketOf(3, 2), 1);
            check.due("paid", reels.pocketOf(3, 4), 2 * ball);
        }
    }

    @Says("a ball that comes to it opens it, if it is shut, and shuts it, if it is open")
    static void aTulipIsOpenAndShutByTurns(Check check) {
        PachinkoReels reels = Lay.channels(1);
        reels.buy(9);
        for (int ball = 1; ball <= 6; ball++) {
            reels.launch(1);
            check.due("open behind ball " + ball, reels.pocketOf(1, 2), ball % 2);
            check.due("paid behind ball " + ball, reels.pocketOf(1, 4), ball / 2 * 3);
            check.due("the other tulip", reels.pocketOf(5, 2), 0);
        }
    }

    @Says("(A tulip that was shut does not pay this ball.)")
    static void aTulipThatWasShutDoesNotPayTheBallThatOpensIt(Check check) {
        PachinkoReels reels = Lay.oneBall(1);
        reels.launch(1);
        check.due("open", reels.pocketOf(1, 2), 1);
        check.due("hand", reels.count(0), 0);
        check.due("paid", reels.count(3), 0);
        check.due("reason 1", reels.count(4), 1);
    }

    @Says("A ball that comes to a pocket that is open is paid")
    static void anOpenTulipPaysTheBallThatShutsIt(Check check) {
        PachinkoReels reels = Lay.oneBall(1);
        reels.buy(1);
        reels.launch(1);
        reels.launch(1);
        check.due("open", reels.pocketOf(1, 2), 0);
        check.due("hand", reels.count(0), 3);
        check.due("reason 1", reels.count(4), 1);
    }

    @Says("At a pocket that is shut it is not paid, for the reason 1")
    static void atAShutReelPocketItIsNotPaid(Check check) {
        PachinkoReels reels = Lay.oneBall(2);
        reels.launch(2);
        dueUnpaid(check, reels, 1, 0);
    }

    @Says("At a pocket that is shut it is not paid, for the reason 1")
    static void atAShutPocketThatPays0TheReasonIs1(Check check) {
        PachinkoReels reels = Lay.oneBall(2);
        reels.pocket(2, 1, 0);
        reels.launch(2);
        dueUnpaid(check, reels, 1, 0);
        PachinkoReels tulip = Lay.oneBall(2);
        tulip.pocket(2, 2, 0);
        tulip.launch(2);
        dueUnpaid(check, tulip, 1, 0);
    }

    @Says("at an open one that pays 0 for the reason 2")
    static void atAnOpenPocketOfEachKindThatPays0TheReasonIs2(Check check) {
        PachinkoReels plain = Lay.oneBall(0);
        plain.launch(0);
        dueUnpaid(check, plain, 0, 1);
        PachinkoReels tulip = Lay.oneBall(1);
        tulip.buy(1);
        tulip.pocket(1, 2, 0);
        tulip.launch(1);
        tulip.launch(1);
        dueUnpaid(check, tulip, 1, 1);
        PachinkoReels held = Lay.held(1, 0);
        held.pocket(2, 1, 0);
        held.launch(2);
        check.due("reason 1", held.count(4), 0);
        check.due("reason 2", held.count(5), 1);
    }

    @Says("at an open one that pays 0 for the reason 2")
    static void atAnOpenPocketThatPays1ThereIsNoReason(Check check) {
        PachinkoReels reels = Lay.oneBall(0);
        reels.pocket(0, 0, 1);
        reels.launch(0);
        check.due("reason 1", reels.count(4), 0);
        check.due("reason 2", reels.count(5), 0);
    }

    private static void dueUnpaid(Check check, PachinkoReels reels, int shut, int zero) {
        check.due("hand", reels.count(0), 0);
        check.due("paid", reels.count(3), 0);
        check.due("reason 1", reels.count(4), shut);
        check.due("reason 2", reels.count(5), zero);
    }

    @Says("Undoable.")
    static void undoBringsTheBallBack(Check check) {
        check.undoable(() -> Lay.oneBall(3), reels -> reels.launch(3));
        check.undoable(() -> Lay.oneBall(1), reels -> reels.launch(1));
        check.undoable(Lay::busy, reels -> reels.launch(2));
        check.undoable(() -> Lay.waiting(4), reels -> reels.launch(3));
        check.undoable(() -> drawing(0, 0, 0, 0, 0, 0, 0, 0), reels -> reels.launch(0));
    }
}
