/** Promise 26: bestColumn. */
public final class Promise26BestColumnTest {
    private static final String MEASURED = "measured by all its ways (that sum times 1000, divided by them)";

    public static void main(String[] args) {
        Sentences.run(Promise26BestColumnTest.class);
    }

    private static PachinkoReels payingNothing(PachinkoReels reels) {
        for (int pocket = 0; pocket < 7; pocket++) {
            reels.pocket(pocket, 0, 0);
        }
        return reels;
    }

    @Says("Finds the column that pays most by its ways.")
    static void theBestCanBe0AndCanBe6(Check check) {
        PachinkoReels left = payingNothing(new PachinkoReels());
        left.pocket(0, 0, 15);
        check.due("0", left.bestColumn(), 0);
        PachinkoReels right = payingNothing(new PachinkoReels());
        right.pocket(6, 0, 15);
        check.due("6", right.bestColumn(), 6);
    }

    @Says("Finds the column that pays most by its ways.")
    static void theBestCanBeEachColumn(Check check) {
        for (int column = 0; column < 7; column++) {
            PachinkoReels reels = payingNothing(Lay.channels(column));
            reels.pocket(column, 0, 15);
            check.due("best", reels.bestColumn(), column);
        }
    }

    @Says("of several the lowest.")
    static void ifNoneIsPaidItIs0(Check check) {
        check.due("all pay 0", payingNothing(new PachinkoReels()).bestColumn(), 0);
        PachinkoReels shut = new PachinkoReels();
        for (int pocket = 0; pocket < 7; pocket++) {
            shut.pocket(pocket, 1, 15);
        }
        check.due("all are shut", shut.bestColumn(), 0);
    }

    @Says("of several the lowest.")
    static void ofTwoThatPayTheSameItIsTheLower(Check check) {
        PachinkoReels reels = payingNothing(Lay.channels(2, 5));
        reels.pocket(2, 0, 9);
        reels.pocket(5, 0, 9);
        check.due("2 and 5", reels.bestColumn(), 2);
        reels.pocket(5, 0, 10);
        check.due("5 pays 1 more", reels.bestColumn(), 5);
    }

    @Says("of several the lowest.")
    static void ofAllThatPayTheSameItIs0(Check check) {
        PachinkoReels reels = new PachinkoReels();
        for (int pocket = 0; pocket < 7; pocket++) {
            reels.pocket(pocket, 0, 15);
        }
        check.due("all pay 15 on each way", reels.bestColumn(), 0);
    }

    @Says("over all pockets that are open now")
    static void aPocketThatIsShutDoesNotCount(Check check) {
        PachinkoReels reels = Lay.channels(1, 2, 3);
        reels.pocket(3, 0, 1);
        reels.pocket(0, 0, 0);
        reels.pocket(6, 0, 0);
        reels.buy(9);
        check.due("the plain pocket", reels.bestColumn(), 3);
        reels.launch(1);
        check.due("the tulip is open", reels.bestColumn(), 1);
        reels.launch(1);
        check.due("the tulip is shut", reels.bestColumn(), 3);
    }

    @Says("over all pockets that are open now")
    static void aReelPocketCountsAsLongAsItIsHeldOpen(Check check) {
        PachinkoReels reels = Lay.held(1, 0);
        check.due("held for one ball", reels.bestColumn(), 2);
        reels.launch(4);
        check.due("held for none", reels.bestColumn(), 3);
    }

    @Says("the greatest sum, over all pockets that are open now, of its ways there times their pays")
    static void theSumIsOverAllPocketsFrom0To6(Check check) {
        PachinkoReels reels = payingNothing(new PachinkoReels());
        reels.pocket(0, 0, 9);
        reels.pocket(6, 0, 15);
        // from 6 there are 70 ways to 6 and 9 to 0, from 4 there are 56 and 28
        check.due("the pocket 6 pays more", reels.bestColumn(), 6);
        reels.pocket(0, 0, 15);
        reels.pocket(6, 0, 9);
        check.due("the pocket 0 pays more", reels.bestColumn(), 0);
        reels.pocket(6, 0, 10);
        reels.pocket(0, 0, 9);
        check.due("from 4 both together pay most", reels.bestColumn(), 4);
    }

    @Says(MEASURED)
    static void aColumnOfFewWaysIsMeasuredByThem(Check check) {
        PachinkoReels reels = payingNothing(Lay.channels(3));
        reels.pocket(3, 0, 2);
        reels.pocket(0, 0, 3);
        // from 3 the one way pays 2; from 0 many ways pay more, together, but not each
        check.due("best", reels.bestColumn(), 3);
        check.due("its ways", reels.ways(3, 3), 1);
    }

    @Says("divisions are rounded down")
    static void twoThatAreEqualWhenRoundedDownAreEqual(Check check) {
        PachinkoReels reels = payingAtTheLeft("b73>;b51<;b13<");
        dueMeasure(check, reels, 0, 60, 205);
        dueMeasure(check, reels, 2, 41, 140);
        // 292 and 292, though 41 of 140 is more than 60 of 205
        check.due("best", reels.bestColumn(), 0);
        PachinkoReels others = payingAtTheLeft("b71>;b20>;b13>;b66>");
        dueMeasure(check, others, 0, 23, 163);
        dueMeasure(check, others, 1, 29, 205);
        // 141 and 141; times 999 they were 140 and 141
        check.due("best of the others", others.bestColumn(), 0);
    }

    @Says(MEASURED)
    static void twoThatAreOneApartWhenRoundedDownAreNotEqual(Check check) {
        PachinkoReels reels = payingAtTheLeft("b13<;b64<");
        dueMeasure(check, reels, 0, 70, 244);
        dueMeasure(check, reels, 2, 50, 174);
        // 286 and 287; times 1001 they were equal
        check.due("best", reels.bestColumn(), 2);
    }

    @Says(MEASURED)
    static void theSumIsTakenTimes1000AndNotLess(Check check) {
        PachinkoReels reels = payingAtTheLeft("b06<;b71>;b52<");
        dueMeasure(check, reels, 0, 35, 201);
        dueMeasure(check, reels, 1, 35, 195);
        // 174 and 179; times 100 they were equal
        check.due("best", reels.bestColumn(), 1);
    }

    /** The pocket 0 alone pays 1. */
    private static PachinkoReels payingAtTheLeft(String bends) {
        PachinkoReels reels = Lay.written(bends);
        reels.work();
        payingNothing(reels);
        reels.pocket(0, 0, 1);
        return reels;
    }

    private static void dueMeasure(Check check, PachinkoReels reels, int column, int there, int all) {
        int sum = 0;
        for (int pocket = 0; pocket < 7; pocket++) {
            sum += reels.ways(column, pocket);
        }
        check.due("ways to 0", reels.ways(column, 0), there);
        check.due("all ways", sum, all);
    }

    @Says("nothing is changed")
    static void nothingIsChanged(Check check) {
        check.changesNothing(reels -> reels.bestColumn());
    }
}
