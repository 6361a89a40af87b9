/** Promise 7: buy. */
public final class Promise07BuyTest {
    public static void main(String[] args) {
        Sentences.run(Promise07BuyTest.class);
    }

    @Says("`balls`: 1 to 99")
    static void theLeastIs1(Check check) {
        PachinkoReels reels = new PachinkoReels();
        check.due("hand", reels.buy(1), 1);
        check.due("bought", reels.count(1), 1);
    }

    @Says("`balls`: 1 to 99")
    static void theGreatestIs99(Check check) {
        PachinkoReels reels = new PachinkoReels();
        check.due("hand", reels.buy(99), 99);
        check.due("bought", reels.count(1), 99);
    }

    @Says("Throws `IllegalArgumentException` if balls is out of range")
    static void ballsOutside1To99AreRefused(Check check) {
        check.refusedOutside(1, 99, Check.ARGUMENT, (reels, balls) -> reels.buy(balls));
    }

    @Says("Returns how many are in the hand then.")
    static void returnsTheHandAndNotWhatWasBought(Check check) {
        PachinkoReels reels = Lay.channels(0, 3);
        check.due("the empty hand and 2", reels.buy(2), 2);
        reels.launch(0);
        check.due("one was launched", reels.buy(1), 2);
        reels.launch(3);
        check.due("one was launched, two were paid", reels.buy(1), 4);
        check.due("bought", reels.count(1), 4);
    }

    @Says("Buys balls.")
    static void theHandHasNoLimit(Check check) {
        PachinkoReels reels = new PachinkoReels();
        for (int times = 1; times <= 500; times++) {
            check.due("hand", reels.buy(99), 99L * times);
        }
    }

    @Says("Undoable.")
    static void undoTakesThemBack(Check check) {
        check.undoable(reels -> reels.buy(1));
        check.undoable(reels -> reels.buy(99));
    }
}
