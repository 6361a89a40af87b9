/** Promise 20: pocketOf. */
public final class Promise20PocketOfTest {
    public static void main(String[] args) {
        Sentences.run(Promise20PocketOfTest.class);
    }

    @Says("`pocket`: 0 to 6")
    static void theLeastPocketIs0(Check check) {
        dueOf(check, 0, 2, 14, 0, 0, 0);
    }

    @Says("`pocket`: 0 to 6")
    static void theGreatestPocketIs6(Check check) {
        dueOf(check, 6, 2, 14, 0, 0, 0);
    }

    /** A pocket of its own kind and pay, and what it tells. */
    private static void dueOf(Check check, int pocket, int... due) {
        PachinkoReels reels = new PachinkoReels();
        reels.pocket(pocket, due[0], due[1]);
        for (int what = 0; what < 5; what++) {
            check.due("what " + what, reels.pocketOf(pocket, what), due[what]);
        }
    }

    @Says("Throws `IndexOutOfBoundsException` if there is no such pocket")
    static void aPocketOutside0To6IsRefused(Check check) {
        for (int what = 0; what < 5; what++) {
            int asked = what;
            check.refusedOutside(0, 6, Check.INDEX, (reels, pocket) -> reels.pocketOf(pocket, asked));
        }
    }

    @Says("Throws `IllegalArgumentException` if what is not 0 to 4")
    static void aWhatOutside0To4IsRefused(Check check) {
        check.refusedOutside(0, 4, Check.ARGUMENT, (reels, what) -> reels.pocketOf(0, what));
        check.refusedOutside(0, 4, Check.ARGUMENT, (reels, what) -> reels.pocketOf(6, what));
    }

    @Says("If several exceptions apply, the one that is named first in the throws clause is thrown.")
    static void noSuchPocketAndNoSuchWhatIsNoSuchPocket(Check check) {
        check.refusedOutside(0, 6, Check.INDEX, (reels, pocket) -> reels.pocketOf(pocket, 5));
        check.refusedOutside(0, 6, Check.INDEX, (reels, pocket) -> reels.pocketOf(pocket, -1));
    }

    @Says("Returns the number.")
    static void theNumbersComeBackWithUndo(Check check) {
        PachinkoReels reels = Lay.oneBall(3);
        reels.launch(3);
        reels.undo();
        check.due("came", reels.pocketOf(3, 3), 0);
        check.due("paid", reels.pocketOf(3, 4), 0);
    }

    @Says("0: its kind; 1: its pay;")
    static void kindsFrom0To2AndPaysFrom0To15(Check check) {
        for (int kind = 0; kind <= 2; kind++) {
            for (int pay = 0; pay <= 15; pay++) {
                dueOf(check, 4, kind, pay, kind == 0 ? 1 : 0, 0, 0);
            }
        }
    }

    @Says("2: 1 if it is open, otherwise 0")
    static void aPlainPocketIsOpenAlsoIfItPays0(Check check) {
        check.due("pays 0", new PachinkoReels().pocketOf(0, 2), 1);
        check.due("pays 2", new PachinkoReels().pocketOf(3, 2), 1);
    }

    @Says("2: 1 if it is open, otherwise 0")
    static void aReelPocketIsOpenAsLongAsItIsHeldForABall(Check check) {
        check.due("held for none", new PachinkoReels().pocketOf(2, 2), 0);
        PachinkoReels reels = Lay.held(1, 0);
        check.due("held for one", reels.pocketOf(2, 2), 1);
        reels.launch(4);
        check.due("held for none any more", reels.pocketOf(2, 2), 0);
    }

    @Says("2: 1 if it is open, otherwise 0")
    static void aTulipIsOpenBehindOneBallAndShutBehindTwo(Check check) {
        PachinkoReels reels = Lay.oneBall(1);
        reels.buy(1);
        check.due("at first", reels.pocketOf(1, 2), 0);
        reels.launch(1);
        check.due("behind one", reels.pocketOf(1, 2), 1);
        reels.launch(1);
        check.due("behind two", reels.pocketOf(1, 2), 0);
    }

    @Says("3: balls that came to it so far")
    static void ballsThatAreNotPaidCameToo(Check check) {
        PachinkoReels reels = Lay.channels(0, 2);
        reels.buy(9);
        check.due("none", reels.pocketOf(2, 3), 0);
        reels.launch(2);
        check.due("at a shut pocket", reels.pocketOf(2, 3), 1);
        reels.play(0, 3);
        check.due("at one that pays 0", reels.pocketOf(0, 3), 3);
        check.due("at the shut pocket yet", reels.pocketOf(2, 3), 1);
        check.due("at another", reels.pocketOf(3, 3), 0);
    }

    @Says("4: balls that it paid so far, together")
    static void itPaidEachTimeWhatItPaidThen(Check check) {
        PachinkoReels reels = Lay.oneBall(3);
        check.due("none", reels.pocketOf(3, 4), 0);
        reels.launch(3);
        reels.pocket(3, 0, 15);
        check.due("its new pay is not paid yet", reels.pocketOf(3, 4), 2);
        reels.launch(3);
        check.due("both", reels.pocketOf(3, 4), 17);
        check.due("another", reels.pocketOf(2, 4), 0);
    }

    @Says("nothing is changed")
    static void nothingIsChanged(Check check) {
        check.changesNothing(reels -> reels.pocketOf(1, 2));
        check.changesNothing(reels -> reels.pocketOf(6, 4));
    }

    @Says("Returns something of a pocket.")
    static void numbersBehindThirtyLaunches(Check check) {
        PachinkoReels reels = Lay.oneBall(3);
        reels.pocket(3, 0, 15);
        reels.play(3, 30);
        check.due("came", reels.pocketOf(3, 3), 30);
        check.due("paid", reels.pocketOf(3, 4), 450);
    }
}
