/** Promises 7 to 9 and 19 to 22: balls, spins, and what can be looked at behind them. */
public final class BallsTest {
    private static final Check CHECK = new Check();

    public static void main(String[] args) {
        buys();
        launches();
        fallsOverBentPins();
        fallsOverStraightPins();
        draws();
        tulips();
        reasons();
        spinsThatWait();
        spinsThatDoNotAgree();
        jackpots();
        streaks();
        streakAnew();
        noStreak();
        heldBalls();
        heldByOneBall();
        startPocketOfReelKind();
        settingsAreTakenByTheSpin();
        plays();
        looks();
        CHECK.end();
    }

    private static void buys() {
        PachinkoReels reels = new PachinkoReels();
        CHECK.due("7: least", reels.buy(1), 1);
        CHECK.due("7: most", reels.buy(99), 100);
        CHECK.due("22: hand", reels.count(0), 100);
        CHECK.due("22: bought", reels.count(1), 100);
        CHECK.due("7: saved", reels.count(17), 2);
        for (int balls : new int[] {0, 100, -1, Integer.MIN_VALUE, Integer.MAX_VALUE}) {
            CHECK.throwing("7: balls " + balls, reels, Check.ARGUMENT, () -> reels.buy(balls));
        }
    }

    private static void launches() {
        PachinkoReels reels = Lay.channels(0, 3, 6);
        for (int column : new int[] {-1, 7, Integer.MIN_VALUE, Integer.MAX_VALUE}) {
            CHECK.throwing("8: column first", reels, Check.INDEX, () -> reels.launch(column));
        }
        CHECK.throwing("8: no ball", reels, Check.STATE, () -> reels.launch(0));
        reels.buy(3);
        for (int column : new int[] {-1, 7}) {
            CHECK.throwing("8: no such column", reels, Check.INDEX, () -> reels.launch(column));
        }
        CHECK.due("8: pocket 3", reels.launch(3), 3);
        CHECK.due("22: hand, one less and two paid", reels.count(0), 4);
        CHECK.due("22: latest pocket", reels.count(11), 3);
        CHECK.due("8: pocket 6", reels.launch(6), 6);
        CHECK.due("8: pocket 0", reels.launch(0), 0);
        CHECK.due("22: launches", reels.count(2), 3);
        CHECK.due("22: paid", reels.count(3), 2);
        CHECK.due("22: bought stays", reels.count(1), 3);
        CHECK.due("22: latest pocket again", reels.count(11), 0);
        CHECK.due("8: saved", reels.count(17), 6);
        reels.undo();
        CHECK.due("8: undone alone", reels.count(2), 2);
    }

    private static void fallsOverBentPins() {
        PachinkoReels reels = Lay.channels(2);
        reels.buy(9);
        CHECK.due("8: bent pins", reels.launch(2), 2);
        dueTouched(reels, 2, 10, 16, 24, 30, 38, 44, 52);
        CHECK.due("8: bent pins draw nothing", reels.count(13), 1);
        PachinkoReels left = new PachinkoReels();
        left.buy(1);
        for (int row = 0; row < 8; row++) {
            left.bend(row, 0, -1);
        }
        CHECK.due("8: it stays at the left edge", left.launch(0), 0);
        dueTouched(left, 0, 7, 14, 21, 28, 35, 42, 49);
        PachinkoReels right = Lay.channels(6);
        right.buy(1);
        CHECK.due("8: it stays at the right edge", right.launch(6), 6);
        dueTouched(right, 6, 13, 20, 27, 34, 41, 48, 55);
    }

    private static void fallsOverStraightPins() {
        PachinkoReels reels = new PachinkoReels();
        reels.buy(9);
        reels.shuffle(Lay.xFor(2, 0, 0, 1, 1, 1, 0, 0, 1));
        CHECK.due("8: left edge", reels.launch(1), 2);
        dueTouched(reels, 1, 7, 14, 22, 30, 38, 44, 50);
        reels.shuffle(Lay.xFor(2, 1, 1, 0, 1, 1, 1, 1, 0));
        CHECK.due("8: right edge", reels.launch(5), 5);
        dueTouched(reels, 5, 13, 20, 26, 34, 41, 48, 55);
        for (int place : new int[] {-1, 8, Integer.MIN_VALUE, Integer.MAX_VALUE}) {
            CHECK.throwing("19: place " + place, reels, Check.ARGUMENT, () -> reels.touched(place));
        }
    }

    private static void dueTouched(PachinkoReels reels, int... pins) {
        for (int row = 0; row < 8; row++) {
            CHECK.due("19: row " + row, reels.touched(row), pins[row]);
        }
    }

    private static void draws() {
        PachinkoReels reels = new PachinkoReels();
        for (int row = 1; row < 8; row++) {
            for (int column = 0; column < 7; column++) {
                reels.bend(row, column, 1);
            }
        }
        reels.buy(99);
        for (int first : new int[] {0, 1, 2, 77777, 2147483646, 2147483647}) {
            reels.shuffle(first);
            reels.launch(3);
            CHECK.due("8: one draw from " + first, reels.count(13), Lay.nextX(first));
            CHECK.due("8: its side", reels.touched(1), 7 + (Lay.nextX(first) / 65536 % 2 == 0 ? 2 : 4));
        }
    }

    private static void tulips() {
        PachinkoReels reels = Lay.channels(1);
        reels.buy(9);
        reels.launch(1);
        CHECK.due("8: a shut tulip pays not", reels.count(0), 8);
        CHECK.due("8: but opens", reels.pocketOf(1, 2), 1);
        CHECK.due("22: reason 1", reels.count(4), 1);
        reels.launch(1);
        CHECK.due("8: an open tulip pays", reels.count(0), 10);
        CHECK.due("8: and shuts", reels.pocketOf(1, 2), 0);
        CHECK.due("20: came", reels.pocketOf(1, 3), 2);
        CHECK.due("20: paid", reels.pocketOf(1, 4), 3);
        reels.pocket(1, 2, 0);
        reels.launch(1);
        reels.launch(1);
        CHECK.due("22: reason 1 for the shut one", reels.count(4), 2);
        CHECK.due("22: reason 2 for the open one without a pay", reels.count(5), 1);
        CHECK.due("8: it shuts all the same", reels.pocketOf(1, 2), 0);
    }

    private static void reasons() {
        PachinkoReels reels = Lay.channels(0, 2, 3);
        reels.buy(9);
        reels.launch(0);
        CHECK.due("22: plain without a pay", reels.count(5), 1);
        CHECK.due("22: not shut", reels.count(4), 0);
        reels.launch(2);
        CHECK.due("22: a reel pocket is shut", reels.count(4), 1);
        reels.pocket(2, 1, 0);
        reels.launch(2);
        CHECK.due("22: shut and without a pay is reason 1", reels.count(4), 2);
        CHECK.due("22: and not reason 2", reels.count(5), 1);
        reels.launch(3);
        CHECK.due("22: a paid ball has no reason", reels.count(4) + reels.count(5), 3);
        CHECK.due("20: paid by 3", reels.pocketOf(3, 4), 2);
        CHECK.due("20: paid by 2", reels.pocketOf(2, 4), 0);
        CHECK.due("20: came to 2", reels.pocketOf(2, 3), 2);
    }

    private static void spinsThatWait() {
        PachinkoReels reels = Lay.channels(0, 3);
        reels.buy(50);
        reels.launch(3);
        CHECK.due("22: one waits", reels.count(6), 1);
        CHECK.due("22: none was made", reels.count(7), 0);
        reels.shuffle(Lay.xFor(8, 1, 2, 3));
        reels.launch(0);
        CHECK.due("22: it does not wait any more", reels.count(6), 0);
        CHECK.due("22: it was made", reels.count(7), 1);
        reels.launch(0);
        CHECK.due("22: no spin without one that waits", reels.count(7), 1);
        atMostFourWait();
        startPocketsOfEachKind();
    }

    private static void atMostFourWait() {
        PachinkoReels reels = Lay.held(10, 0);
        for (int launch = 0; launch < 6; launch++) {
            reels.launch(3);
            CHECK.due("22: spins that wait", reels.count(6), Math.min(4, launch + 2));
            CHECK.due("8: no spin while held open", reels.count(7), 1);
        }
    }

    private static void startPocketsOfEachKind() {
        for (int kind = 0; kind < 3; kind++) {
            PachinkoReels reels = Lay.channels(5);
            reels.pocket(5, kind, 0);
            reels.start(5);
            reels.buy(1);
            reels.launch(5);
            CHECK.due("8: a start pocket of kind " + kind, reels.count(6), 1);
        }
    }

    private static void spinsThatDoNotAgree() {
        PachinkoReels reels = Lay.channels(0, 3);
        reels.buy(50);
        int[][] signs = {{5, 6, 7}, {4, 4, 0}, {4, 0, 4}, {0, 4, 4}};
        for (int[] drawn : signs) {
            reels.launch(3);
            reels.shuffle(Lay.xFor(8, drawn));
            reels.launch(0);
            dueSigns(reels, drawn[0], drawn[1], drawn[2]);
            CHECK.due("22: no jackpot", reels.count(8), 0);
            CHECK.due("22: nothing held", reels.count(9), 0);
            CHECK.due("22: no streak", reels.count(10), 0);
        }
        CHECK.due("22: spins", reels.count(7), 4);
    }

    private static void dueSigns(PachinkoReels reels, int first, int second, int third) {
        CHECK.due("21: reel 0", reels.reel(0), first);
        CHECK.due("21: reel 1", reels.reel(1), second);
        CHECK.due("21: reel 2", reels.reel(2), third);
    }

    private static void jackpots() {
        PachinkoReels reels = Lay.held(6, 8);
        dueSigns(reels, 7, 7, 7);
        CHECK.due("22: spins", reels.count(7), 1);
        CHECK.due("22: jackpots", reels.count(8), 1);
        CHECK.due("22: held", reels.count(9), 6);
        CHECK.due("22: streak", reels.count(10), 8);
        CHECK.due("20: reel pocket 2 is open", reels.pocketOf(2, 2), 1);
        CHECK.due("20: reel pocket 4 is open", reels.pocketOf(4, 2), 1);
        CHECK.due("20: a tulip is not", reels.pocketOf(1, 2), 0);
        CHECK.due("22: the ball let one wait", reels.count(6), 1);
    }

    private static void streaks() {
        PachinkoReels reels = Lay.held(1, 2);
        reels.launch(2);
        CHECK.due("22: shut behind one ball", reels.count(9), 0);
        CHECK.due("22: streak", reels.count(10), 2);
        // bit 2 of the first number would show as 4 or more without the streak
        reels.shuffle(Lay.xFor(8, 5, 6, 7));
        reels.launch(3);
        dueSigns(reels, 1, 2, 3);
        CHECK.due("22: one spin shorter", reels.count(10), 1);
        reels.shuffle(Lay.xFor(8, 4, 6, 7));
        reels.launch(3);
        dueSigns(reels, 0, 2, 3);
        CHECK.due("22: the streak is over", reels.count(10), 0);
        reels.shuffle(Lay.xFor(8, 4, 6, 7));
        reels.launch(3);
        dueSigns(reels, 4, 6, 7);
        CHECK.due("22: not below 0", reels.count(10), 0);
        CHECK.due("22: jackpots", reels.count(8), 1);
    }

    private static void streakAnew() {
        PachinkoReels reels = Lay.held(1, 3);
        reels.launch(2);
        reels.shuffle(Lay.xFor(8, 4, 6, 7));
        reels.launch(3);
        CHECK.due("22: shorter", reels.count(10), 2);
        // these agree below 4 alone
        reels.shuffle(Lay.xFor(8, 1, 5, 5));
        reels.launch(3);
        dueSigns(reels, 1, 1, 1);
        CHECK.due("22: a jackpot in the streak", reels.count(8), 2);
        CHECK.due("22: the streak begins anew", reels.count(10), 3);
        CHECK.due("22: held anew", reels.count(9), 1);
        reels.launch(2);
        reels.shuffle(Lay.xFor(8, 1, 5, 5));
        reels.launch(3);
        CHECK.due("22: a jackpot though they agreed ahead of it", reels.count(8), 3);
        CHECK.due("22: held open though they agreed ahead of it", reels.count(9), 1);
    }

    private static void noStreak() {
        PachinkoReels reels = Lay.held(1, 0);
        CHECK.due("22: no streak", reels.count(10), 0);
        reels.launch(2);
        reels.shuffle(Lay.xFor(8, 4, 6, 7));
        reels.launch(3);
        dueSigns(reels, 4, 6, 7);
    }

    private static void heldBalls() {
        PachinkoReels reels = Lay.held(3, 0);
        reels.launch(2);
        CHECK.due("22: one less", reels.count(9), 2);
        CHECK.due("20: paid", reels.pocketOf(2, 4), 10);
        reels.launch(0);
        reels.launch(1);
        reels.launch(3);
        CHECK.due("22: other kinds take none", reels.count(9), 2);
        reels.pocket(4, 1, 0);
        reels.launch(4);
        CHECK.due("22: a ball without a pay takes one", reels.count(9), 1);
        reels.launch(2);
        CHECK.due("22: at 0", reels.count(9), 0);
        CHECK.due("20: the last ball is paid", reels.pocketOf(2, 4), 20);
        CHECK.due("20: they are shut", reels.pocketOf(2, 2) + reels.pocketOf(4, 2), 0);
    }

    private static void heldByOneBall() {
        PachinkoReels reels = Lay.channels(2, 3);
        reels.buy(9);
        reels.set(0, 1);
        reels.launch(3);
        reels.shuffle(Lay.xFor(8, 2, 2, 2));
        reels.launch(2);
        CHECK.due("8: the spin comes ahead of the ball", reels.pocketOf(2, 4), 10);
        CHECK.due("8: and the ball shuts what it opened", reels.count(9), 0);
        CHECK.due("22: hand", reels.count(0), 9 - 2 + 2 + 10);
    }

    private static void startPocketOfReelKind() {
        PachinkoReels reels = Lay.channels(2);
        reels.buy(9);
        reels.start(2);
        reels.launch(2);
        reels.shuffle(Lay.xFor(8, 2, 2, 2));
        CHECK.due("8: launch", reels.launch(2), 2);
        CHECK.due("8: paid and counted at once", reels.pocketOf(2, 4), 10);
        CHECK.due("8: one waits again", reels.count(6), 1);
        CHECK.due("8: held", reels.count(9), 5);
    }

    private static void settingsAreTakenByTheSpin() {
        PachinkoReels reels = Lay.held(6, 8);
        reels.set(0, 2);
        reels.set(1, 3);
        CHECK.due("5: what is held stays", reels.count(9), 6);
        CHECK.due("5: the streak stays", reels.count(10), 8);
    }

    private static void plays() {
        PachinkoReels reels = Lay.channels(3, 6);
        CHECK.due("9: without a ball", reels.play(3, 5), 0);
        CHECK.due("9: none launched", reels.count(2), 0);
        CHECK.due("9: saved all the same", reels.count(17), 6);
        reels.pocket(3, 0, 1);
        reels.buy(2);
        CHECK.due("9: a ball that is paid is launched again", reels.play(3, 30), 30);
        CHECK.due("22: thirty launches", reels.count(2), 30);
        CHECK.due("22: hand", reels.count(0), 2);
        CHECK.due("9: as far as balls are in the hand", reels.play(6, 30), 0);
        CHECK.due("22: two more launches", reels.count(2), 32);
        CHECK.due("22: empty hand", reels.count(0), 0);
        CHECK.due("9: a pocket that is shut pays nothing", playedAtShutPockets(), 0);
        CHECK.due("9: undone as one call", undone(reels), 30);
        CHECK.due("9: one ball", reels.play(6, 1), 0);
        CHECK.due("22: one launch", reels.count(2), 31);
        for (int column : new int[] {-1, 7, Integer.MIN_VALUE, Integer.MAX_VALUE}) {
            CHECK.throwing("9: no such column", reels, Check.INDEX, () -> reels.play(column, 1));
            CHECK.throwing("9: column first", reels, Check.INDEX, () -> reels.play(column, 0));
        }
        for (int balls : new int[] {0, 31, -1, Integer.MIN_VALUE, Integer.MAX_VALUE}) {
            CHECK.throwing("9: balls", reels, Check.ARGUMENT, () -> reels.play(3, balls));
        }
    }

    private static long playedAtShutPockets() {
        PachinkoReels reels = Lay.channels(1, 2);
        reels.buy(9);
        return reels.play(2, 4) + reels.play(1, 1);
    }

    private static long undone(PachinkoReels reels) {
        reels.undo();
        return reels.count(2);
    }

    private static void looks() {
        PachinkoReels reels = Lay.held(6, 8);
        for (int pocket : new int[] {-1, 7, Integer.MIN_VALUE, Integer.MAX_VALUE}) {
            CHECK.throwing("20: no such pocket", reels, Check.INDEX, () -> reels.pocketOf(pocket, 0));
            CHECK.throwing("20: pocket first", reels, Check.INDEX, () -> reels.pocketOf(pocket, 5));
        }
        for (int what : new int[] {-1, 5, Integer.MIN_VALUE, Integer.MAX_VALUE}) {
            CHECK.throwing("20: what", reels, Check.ARGUMENT, () -> reels.pocketOf(0, what));
        }
        for (int reel : new int[] {-1, 3, Integer.MIN_VALUE, Integer.MAX_VALUE}) {
            CHECK.throwing("21: no such reel", reels, Check.INDEX, () -> reels.reel(reel));
        }
        for (int what : new int[] {-1, 18, Integer.MIN_VALUE, Integer.MAX_VALUE}) {
            CHECK.throwing("22: what", reels, Check.ARGUMENT, () -> reels.count(what));
        }
    }
}
