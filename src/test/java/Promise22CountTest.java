/** Promise 22: count. */
public final class Promise22CountTest {
    private static final String SHARES = "0: balls in the hand; 1: balls bought so far; 2: launches so far; 3: balls paid so far";

    public static void main(String[] args) {
        Sentences.run(Promise22CountTest.class);
    }

    @Says("`what`: 0: balls in the hand;")
    static void theLeastWhatIs0(Check check) {
        check.due("none", new PachinkoReels().count(0), 0);
        check.due("one", Lay.oneBall(0).count(0), 1);
    }

    @Says("16: bent pins; 17: saved states")
    static void theGreatestWhatIs17(Check check) {
        PachinkoReels reels = new PachinkoReels();
        for (int saved = 0; saved <= 8; saved++) {
            check.due("saved", reels.count(17), Math.min(6, saved));
            reels.start(3);
        }
    }

    @Says("Throws `IllegalArgumentException` if what is not 0 to 17")
    static void aWhatOutside0To17IsRefused(Check check) {
        check.refusedOutside(0, 17, Check.ARGUMENT, (reels, what) -> reels.count(what));
    }

    @Says("Returns a number.")
    static void eachNumberOfANewBoard(Check check) {
        int[] due = {0, 0, 0, 0, 0, 0, 0, 0, 0, 0, 0, -1, 3, 1, 6, 8, 0, 0};
        for (int what = 0; what < 18; what++) {
            check.due("count " + what, new PachinkoReels().count(what), due[what]);
        }
    }

    @Says("Returns the number.")
    static void eachNumberOfABoardReckonedByHand(Check check) {
        PachinkoReels reels = Lay.channels(0, 1, 2, 3, 4);
        reels.buy(50);
        reels.buy(7);
        reels.set(0, 5);
        reels.set(1, 12);
        // 4 at a shut reel pocket
        reels.play(2, 4);
        reels.launch(3);
        Lay.spin(reels, 1, 2, 3);
        Lay.spin(reels, 7, 7, 7);
        reels.play(3, 2);
        reels.launch(2);
        reels.launch(1);
        reels.play(0, 7);
        reels.set(0, 8);
        reels.set(1, 19);
        reels.shuffle(4242);
        reels.start(6);
        reels.start(5);
        reels.undo();
        int hand = 57 - 18 + 5 * 2 + 10;
        int[] due = {hand, 57, 18, 20, 5, 7, 3, 2, 1, 4, 12, 0, 6, 4242, 8, 19, 40, 5};
        for (int what = 0; what < 18; what++) {
            check.due("count " + what, reels.count(what), due[what]);
        }
    }

    @Says(SHARES)
    static void theHandIs0BehindTheLastBall(Check check) {
        PachinkoReels reels = Lay.oneBall(0);
        reels.launch(0);
        check.due("hand", reels.count(0), 0);
        check.due("bought", reels.count(1), 1);
        check.due("launches", reels.count(2), 1);
        check.due("paid", reels.count(3), 0);
    }

    @Says("4: launches that were not paid so far for the reason 1; 5: likewise for the reason 2")
    static void aLaunchIsCountedForOneReasonAtMost(Check check) {
        PachinkoReels reels = Lay.channels(0, 2, 3);
        reels.buy(9);
        reels.launch(2);
        check.due("reason 1", reels.count(4) * 10 + reels.count(5), 10);
        reels.launch(0);
        check.due("reason 2", reels.count(4) * 10 + reels.count(5), 11);
        reels.launch(3);
        check.due("no reason", reels.count(4) * 10 + reels.count(5), 11);
    }

    @Says("6: spins that wait; 7: spins so far; 8: jackpots so far")
    static void spinsThatWaitAreFrom0To4(Check check) {
        check.due("none", new PachinkoReels().count(6), 0);
        for (int waiting = 1; waiting <= 4; waiting++) {
            check.due("waiting", Lay.waiting(waiting).count(6), waiting);
        }
    }

    @Says("6: spins that wait; 7: spins so far; 8: jackpots so far")
    static void aSpinThatDoesNotAgreeIsNoJackpot(Check check) {
        PachinkoReels reels = Lay.oneBall(3);
        reels.launch(3);
        check.due("spins", reels.count(7), 0);
        Lay.spin(reels, 1, 2, 3);
        check.due("spins behind one", reels.count(7), 1);
        check.due("jackpots", reels.count(8), 0);
    }

    @Says("9: balls for which reel pockets are held open yet; 10: spins that are in the streak yet")
    static void heldAndStreakAtTheirLimits(Check check) {
        PachinkoReels none = new PachinkoReels();
        check.due("held for none", none.count(9), 0);
        check.due("no streak", none.count(10), 0);
        PachinkoReels most = Lay.held(10, 20);
        check.due("held for ten", most.count(9), 10);
        check.due("a streak of twenty", most.count(10), 20);
    }

    @Says("11: the pocket of the latest ball, NONE without one")
    static void withoutABallTheLatestPocketIsNone(Check check) {
        PachinkoReels reels = new PachinkoReels();
        check.due("new", reels.count(11), -1);
        reels.buy(1);
        reels.play(0, 1);
        reels.undo();
        check.due("undone", reels.count(11), -1);
        PachinkoReels refused = new PachinkoReels();
        refused.play(0, 1);
        Check.answerOf(() -> refused.launch(0));
        check.due("none launched", refused.count(11), -1);
    }

    @Says("11: the pocket of the latest ball, NONE without one")
    static void theLatestPocketIsFrom0To6(Check check) {
        for (int column = 0; column < 7; column++) {
            PachinkoReels reels = Lay.oneBall(column);
            reels.launch(column);
            check.due("latest", reels.count(11), column);
        }
    }

    @Says("12: the start pocket; 13: x; 14 and 15: the settings 0 and 1")
    static void eachAtItsLimits(Check check) {
        int[][] limits = {{0, 0, 1, 0}, {6, Integer.MAX_VALUE, 10, 20}};
        for (int[] limit : limits) {
            PachinkoReels reels = new PachinkoReels();
            reels.start(limit[0]);
            reels.shuffle(limit[1]);
            reels.set(0, limit[2]);
            reels.set(1, limit[3]);
            for (int what = 12; what <= 15; what++) {
                check.due("count " + what, reels.count(what), limit[what - 12]);
            }
        }
    }

    @Says("16: bent pins; 17: saved states")
    static void bentPinsAreFrom0To56(Check check) {
        PachinkoReels reels = new PachinkoReels();
        for (int pin = 0; pin < 56; pin++) {
            check.due("bent", reels.count(16), pin);
            reels.bend(pin / 7, pin % 7, 1);
        }
        check.due("all", reels.count(16), 56);
    }

    @Says("nothing is changed")
    static void nothingIsChanged(Check check) {
        check.changesNothing(reels -> reels.count(0) + reels.count(17));
    }
}
