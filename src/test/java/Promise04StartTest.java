/** Promise 4: start. */
public final class Promise04StartTest {
    public static void main(String[] args) {
        Sentences.run(Promise04StartTest.class);
    }

    @Says("`pocket`: 0 to 6")
    static void theLeastPocketIs0(Check check) {
        PachinkoReels reels = Lay.oneBall(0);
        reels.start(0);
        check.due("start pocket", reels.count(12), 0);
        reels.launch(0);
        check.due("a ball there lets a spin wait", reels.count(6), 1);
    }

    @Says("`pocket`: 0 to 6")
    static void theGreatestPocketIs6(Check check) {
        PachinkoReels reels = Lay.oneBall(6);
        reels.start(6);
        check.due("start pocket", reels.count(12), 6);
        reels.launch(6);
        check.due("a ball there lets a spin wait", reels.count(6), 1);
    }

    @Says("Throws `IndexOutOfBoundsException` if there is no such pocket")
    static void aPocketOutside0To6IsRefused(Check check) {
        check.refusedOutside(0, 6, Check.INDEX, (reels, pocket) -> reels.start(pocket));
    }

    @Says("Returns the previous one.")
    static void returnsThePreviousStartPocket(Check check) {
        PachinkoReels reels = new PachinkoReels();
        int before = 3;
        for (int pocket = 6; pocket >= 0; pocket--) {
            check.due("previous of " + pocket, reels.start(pocket), before);
            before = pocket;
        }
        check.due("previous, if it is the same", reels.start(0), 0);
        check.due("previous, again", reels.start(6), 0);
    }

    @Says("Changes the start pocket.")
    static void theOneBeforeIsNoneAnyMore(Check check) {
        PachinkoReels reels = Lay.oneBall(3);
        reels.start(4);
        reels.launch(3);
        check.due("a ball at the one before", reels.count(6), 0);
    }

    @Says("Changes the start pocket.")
    static void spinsThatWaitStay(Check check) {
        PachinkoReels reels = Lay.waiting(4);
        reels.start(0);
        check.due("spins that wait", reels.count(6), 4);
    }

    @Says("Undoable.")
    static void undoBringsTheStartPocketBack(Check check) {
        check.undoable(reels -> reels.start(0));
        check.undoable(reels -> reels.start(6));
    }

    @Says("(also if it changes nothing)")
    static void theSameStartPocketIsSavedToo(Check check) {
        PachinkoReels reels = new PachinkoReels();
        reels.start(3);
        check.due("saved", reels.count(17), 1);
    }
}
