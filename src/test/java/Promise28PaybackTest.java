/** Promise 28: payback. */
public final class Promise28PaybackTest {
    public static void main(String[] args) {
        Sentences.run(Promise28PaybackTest.class);
    }

    @Says("0.0 without any")
    static void withoutALaunchItIs0(Check check) {
        check.due("new", new PachinkoReels().payback(), 0.0);
        PachinkoReels bought = new PachinkoReels();
        bought.buy(99);
        bought.launch(3);
        bought.undo();
        check.due("bought, and a launch undone", bought.payback(), 0.0);
        PachinkoReels refused = new PachinkoReels();
        refused.play(3, 30);
        check.due("none launched", refused.payback(), 0.0);
    }

    @Says("Returns the balls paid so far, as a double, divided by the launches so far")
    static void ifNoneIsPaidItIs0(Check check) {
        PachinkoReels reels = Lay.oneBall(0);
        reels.launch(0);
        check.due("0 of 1", reels.payback(), 0.0);
    }

    @Says("All numbers are integers, but for a share; divisions are rounded down.")
    static void itIsNotRoundedDown(Check check) {
        PachinkoReels reels = Lay.channels(0, 3);
        reels.buy(9);
        reels.launch(3);
        check.due("2 of 1", reels.payback(), 2.0);
        reels.launch(0);
        check.due("2 of 2", reels.payback(), 1.0);
        reels.launch(0);
        check.due("2 of 3", reels.payback(), 2.0 / 3.0);
        reels.launch(3);
        reels.launch(3);
        check.due("6 of 5", reels.payback(), 1.2);
    }

    @Says("Returns how much came back.")
    static void itIsFrom0To15(Check check) {
        for (int pay = 0; pay <= 15; pay++) {
            PachinkoReels reels = Lay.oneBall(0);
            reels.pocket(0, 0, pay);
            reels.launch(0);
            check.due("of 1", reels.payback(), (double) pay);
        }
    }

    @Says("Returns the balls paid so far, as a double, divided by the launches so far")
    static void ballsThatWereBoughtDoNotCount(Check check) {
        PachinkoReels reels = Lay.oneBall(3);
        reels.launch(3);
        reels.buy(99);
        check.due("2 of 1", reels.payback(), 2.0);
    }

    @Says("nothing is changed")
    static void nothingIsChanged(Check check) {
        check.changesNothing(reels -> reels.payback() > 0.0 ? 1 : 0);
    }
}
