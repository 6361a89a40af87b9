/** Promises 23 to 28: ways, what a launch would bring, the best column, until open, payback. */
public final class ChancesTest {
    private static final Check CHECK = new Check();

    public static void main(String[] args) {
        waysOverStraightPins();
        waysOverBentPins();
        wrongWays();
        ifLaunched();
        ifLaunchedWithASpin();
        wrongIfLaunched();
        bestOfChannels();
        bestByAllWays();
        bestByOpenPockets();
        untilOpen();
        untilOpenOfOneBall();
        untilOpenAtTheLimit();
        payback();
        CHECK.end();
    }

    private static void waysOverStraightPins() {
        PachinkoReels reels = new PachinkoReels();
        for (int column = 0; column < 7; column++) {
            long[] due = new long[7];
            for (int way = 0; way < 256; way++) {
                due[endOf(column, way)]++;
            }
            dueWays(reels, column, due);
        }
        dueWays(reels, 3, 28, 56, 9, 70, 9, 56, 28);
        CHECK.due("23: nothing is changed", reels.digest(), new PachinkoReels().digest());
    }

    private static int endOf(int column, int way) {
        int at = column;
        for (int row = 0; row < 8; row++) {
            int next = at + ((way >> row & 1) == 0 ? -1 : 1);
            at = next < 0 || next > 6 ? at : next;
        }
        return at;
    }

    private static void dueWays(PachinkoReels reels, int column, long... due) {
        for (int pocket = 0; pocket < 7; pocket++) {
            CHECK.due("23: from " + column + " to " + pocket, reels.ways(column, pocket), due[pocket]);
            CHECK.due("24: from " + column + " to " + pocket, reels.walked(column, pocket), due[pocket]);
        }
    }

    private static void waysOverBentPins() {
        PachinkoReels reels = Lay.channels(2, 6);
        dueWays(reels, 2, 0, 0, 1, 0, 0, 0, 0);
        dueWays(reels, 6, 0, 0, 0, 0, 0, 0, 1);
        reels.bend(7, 3, 0);
        dueWays(reels, 2, 0, 0, 1, 0, 1, 0, 0);
        reels.bend(6, 2, 0);
        reels.bend(7, 1, 1);
        dueWays(reels, 2, 0, 0, 2, 0, 1, 0, 0);
        reels.bend(7, 6, 0);
        dueWays(reels, 6, 0, 0, 0, 0, 0, 1, 1);
        reels.bend(6, 6, 0);
        reels.bend(7, 5, -1);
        dueWays(reels, 6, 0, 0, 0, 0, 1, 1, 1);
    }

    private static void wrongWays() {
        PachinkoReels reels = new PachinkoReels();
        for (int wrong : new int[] {-1, 7, Integer.MIN_VALUE, Integer.MAX_VALUE}) {
            CHECK.throwing("23: column", reels, Check.INDEX, () -> reels.ways(wrong, 0));
            CHECK.throwing("23: pocket", reels, Check.INDEX, () -> reels.ways(0, wrong));
            CHECK.throwing("24: column", reels, Check.INDEX, () -> reels.walked(wrong, 0));
            CHECK.throwing("24: pocket", reels, Check.INDEX, () -> reels.walked(0, wrong));
        }
    }

    private static void dueIf(PachinkoReels reels, int column, int... due) {
        for (int what = 0; what < 4; what++) {
            CHECK.due("25: from " + column + ", " + what, reels.ifLaunched(column, what), due[what]);
        }
    }

    private static void ifLaunched() {
        PachinkoReels reels = Lay.channels(0, 1, 2, 3);
        long before = reels.digest();
        dueIf(reels, 0, 0, 0, 0, 0);
        dueIf(reels, 1, 1, 0, 0, 0);
        dueIf(reels, 2, 2, 0, 0, 0);
        dueIf(reels, 3, 3, 2, 1, 0);
        CHECK.due("25: nothing is changed", reels.digest(), before);
        reels.buy(1);
        reels.launch(1);
        dueIf(reels, 1, 1, 3, 0, 0);
        CHECK.due("25: also without a ball in the hand", reels.count(0), 0);
    }

    private static void ifLaunchedWithASpin() {
        PachinkoReels reels = Lay.channels(0, 2, 3);
        reels.buy(1);
        reels.launch(3);
        reels.shuffle(Lay.xFor(8, 6, 6, 6));
        dueIf(reels, 0, 0, 0, 0, 6);
        dueIf(reels, 2, 2, 10, 0, 5);
        dueIf(reels, 3, 3, 2, 1, 6);
        reels.set(0, 1);
        dueIf(reels, 2, 2, 10, 0, 0);
        reels.shuffle(Lay.xFor(8, 6, 6, 5));
        dueIf(reels, 2, 2, 0, 0, 0);
        CHECK.due("25: no spin was made", reels.count(7), 0);
        CHECK.due("25: the signs stay", reels.reel(2), 2);
    }

    private static void wrongIfLaunched() {
        PachinkoReels reels = new PachinkoReels();
        for (int wrong : new int[] {-1, 7, Integer.MIN_VALUE, Integer.MAX_VALUE}) {
            CHECK.throwing("25: column", reels, Check.INDEX, () -> reels.ifLaunched(wrong, 0));
            CHECK.throwing("25: column first", reels, Check.INDEX, () -> reels.ifLaunched(wrong, 4));
            CHECK.throwing("27: column", reels, Check.INDEX, () -> reels.untilOpen(wrong));
        }
        for (int wrong : new int[] {-1, 4, Integer.MIN_VALUE, Integer.MAX_VALUE}) {
            CHECK.throwing("25: what", reels, Check.ARGUMENT, () -> reels.ifLaunched(0, wrong));
        }
    }

    private static void payNothing(PachinkoReels reels) {
        for (int pocket = 0; pocket < 7; pocket++) {
            reels.pocket(pocket, 0, 0);
        }
    }

    private static void bestOfChannels() {
        PachinkoReels reels = Lay.channels(0, 1, 2, 3, 4, 5);
        payNothing(reels);
        CHECK.due("26: of several the lowest", reels.bestColumn(), 0);
        reels.pocket(4, 0, 9);
        CHECK.due("26: the channel to the pay", reels.bestColumn(), 4);
        reels.pocket(2, 0, 9);
        CHECK.due("26: the lower of two", reels.bestColumn(), 2);
        reels.pocket(5, 0, 10);
        CHECK.due("26: the greater pay", reels.bestColumn(), 5);
    }

    private static void bestByAllWays() {
        roundedDown();
        waysToEachPocketCount();
    }

    /** With the pocket 0 alone paying 1, the best by its ways there, times 1000, divided by all. */
    private static void roundedDown() {
        // 60 of 205 from 0 and 41 of 140 from 2 are both 292, from 0 it is the lowest
        PachinkoReels reels = payingAtTheLeft("b73>;b51<;b13<");
        dueMeasure(reels, 0, 60, 205);
        dueMeasure(reels, 2, 41, 140);
        CHECK.due("26: equal when rounded down", reels.bestColumn(), 0);
        // 286 and 287; times 1001 they were equal
        PachinkoReels above = payingAtTheLeft("b13<;b64<");
        dueMeasure(above, 0, 70, 244);
        dueMeasure(above, 2, 50, 174);
        CHECK.due("26: one apart", above.bestColumn(), 2);
        // both 141; times 999 they were 140 and 141
        PachinkoReels below = payingAtTheLeft("b71>;b20>;b13>;b66>");
        dueMeasure(below, 0, 23, 163);
        dueMeasure(below, 1, 29, 205);
        CHECK.due("26: equal again", below.bestColumn(), 0);
        // 174 and 179; times 100 they were equal
        PachinkoReels coarse = payingAtTheLeft("b06<;b71>;b52<");
        dueMeasure(coarse, 0, 35, 201);
        dueMeasure(coarse, 1, 35, 195);
        CHECK.due("26: times 1000", coarse.bestColumn(), 1);
    }

    private static PachinkoReels payingAtTheLeft(String bends) {
        PachinkoReels reels = Lay.write(new PachinkoReels(), bends);
        reels.work();
        payNothing(reels);
        reels.pocket(0, 0, 1);
        return reels;
    }

    private static void waysToEachPocketCount() {
        PachinkoReels left = Lay.channels(0, 3);
        payNothing(left);
        left.pocket(0, 0, 5);
        left.pocket(3, 0, 4);
        CHECK.due("26: the pocket 0", left.bestColumn(), 0);
        PachinkoReels right = Lay.channels(3, 6);
        payNothing(right);
        right.pocket(6, 0, 5);
        right.pocket(3, 0, 4);
        CHECK.due("26: the pocket 6", right.bestColumn(), 6);
    }

    private static void dueMeasure(PachinkoReels reels, int column, int there, int all) {
        int sum = 0;
        for (int pocket = 0; pocket < 7; pocket++) {
            sum += reels.ways(column, pocket);
        }
        CHECK.due("26: ways to 0", reels.ways(column, 0), there);
        CHECK.due("26: all ways", sum, all);
    }

    private static void bestByOpenPockets() {
        PachinkoReels reels = Lay.channels(1, 2, 3);
        reels.pocket(3, 0, 0);
        reels.pocket(0, 0, 1);
        reels.pocket(6, 0, 0);
        CHECK.due("26: reel pockets and tulips are shut", reels.bestColumn(), 0);
        reels.buy(9);
        reels.launch(1);
        CHECK.due("26: the tulip is open", reels.bestColumn(), 1);
        reels.launch(3);
        reels.shuffle(Lay.xFor(8, 0, 0, 0));
        reels.launch(3);
        CHECK.due("26: reel pockets are open", reels.bestColumn(), 2);
    }

    private static void untilOpen() {
        PachinkoReels reels = Lay.channels(0, 3);
        CHECK.due("27: never without a spin", reels.untilOpen(0), -1);
        reels.shuffle(Lay.xFor(8, 1, 1, 1));
        CHECK.due("27: the second lets it spin", reels.untilOpen(3), 2);
        reels.buy(2);
        long before = reels.digest();
        reels.untilOpen(3);
        CHECK.due("27: nothing is changed", reels.digest(), before);
        reels.launch(3);
        CHECK.due("27: one is left", reels.untilOpen(3), 1);
        CHECK.due("27: one that waits suffices", reels.untilOpen(0), 1);
        reels.launch(0);
        CHECK.due("27: held open now", reels.untilOpen(0), 0);
        CHECK.due("27: held open now, anywhere", reels.untilOpen(6), 0);
    }

    private static void untilOpenOfOneBall() {
        PachinkoReels reels = Lay.channels(0, 2, 3);
        reels.set(0, 1);
        reels.set(1, 0);
        reels.buy(1);
        reels.launch(3);
        reels.shuffle(Lay.xFor(8, 1, 1, 1));
        CHECK.due("27: shut by the very ball is not held open behind it", reels.untilOpen(2), -1);
        CHECK.due("27: another column", reels.untilOpen(0), 1);
    }

    /** Each launch behind the first spins three times, so the x for the 200th can be reckoned back. */
    private static void untilOpenAtTheLimit() {
        PachinkoReels reels = Lay.channels(3);
        int seen = 0;
        for (int x = 0; x < 400_000 && seen < 3; x++) {
            int first = firstAgreement(x);
            if (first >= 199 && first <= 201) {
                reels.shuffle(x);
                CHECK.due("27: " + first, reels.untilOpen(3), first <= 200 ? first : -1);
                seen++;
            }
        }
        for (int launches = 199; launches <= 201; launches++) {
            int x = 0;
            while (firstAgreement(x) != launches) {
                x++;
            }
            reels.shuffle(x);
            CHECK.due("27: just " + launches, reels.untilOpen(3), launches <= 200 ? launches : -1);
        }
    }

    private static int firstAgreement(int first) {
        long x = first;
        for (int launch = 2; launch <= 201; launch++) {
            long one = Lay.nextX(x);
            long two = Lay.nextX(one);
            x = Lay.nextX(two);
            if (one / 65536 % 8 == two / 65536 % 8 && two / 65536 % 8 == x / 65536 % 8) {
                return launch;
            }
        }
        return -1;
    }

    private static void payback() {
        PachinkoReels reels = Lay.channels(0, 3);
        CHECK.due("28: without a launch", reels.payback(), 0.0);
        reels.buy(9);
        CHECK.due("28: bought balls do not count", reels.payback(), 0.0);
        reels.launch(3);
        CHECK.due("28: two of one", reels.payback(), 2.0);
        reels.launch(0);
        CHECK.due("28: two of two", reels.payback(), 1.0);
        reels.launch(0);
        CHECK.due("28: two of three", reels.payback(), 2.0 / 3.0);
        PachinkoReels none = Lay.channels(0);
        none.buy(1);
        none.launch(0);
        CHECK.due("28: none of one", none.payback(), 0.0);
    }
}
