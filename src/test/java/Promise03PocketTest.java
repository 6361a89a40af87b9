/** Promise 3: pocket. */
public final class Promise03PocketTest {
    public static void main(String[] args) {
        Sentences.run(Promise03PocketTest.class);
    }

    @Says("`pocket`: 0 to 6")
    static void theLeastPocketIs0(Check check) {
        dueChangedAlone(check, 0);
    }

    @Says("`pocket`: 0 to 6")
    static void theGreatestPocketIs6(Check check) {
        dueChangedAlone(check, 6);
    }

    @Says("There are 7 pockets, 0 to 6, each with a kind and a pay, 0 to 15.")
    static void eachPocketIsOneOfItsOwn(Check check) {
        for (int pocket = 0; pocket < 7; pocket++) {
            dueChangedAlone(check, pocket);
        }
    }

    private static void dueChangedAlone(Check check, int pocket) {
        PachinkoReels reels = new PachinkoReels();
        PachinkoReels fresh = new PachinkoReels();
        reels.pocket(pocket, 1, 14);
        for (int other = 0; other < 7; other++) {
            check.due("kind of " + other, reels.pocketOf(other, 0), other == pocket ? 1 : fresh.pocketOf(other, 0));
            check.due("pay of " + other, reels.pocketOf(other, 1), other == pocket ? 14 : fresh.pocketOf(other, 1));
        }
    }

    @Says("`kind`: 0 to 2")
    static void theLeastKindIs0(Check check) {
        PachinkoReels reels = new PachinkoReels();
        reels.pocket(1, 0, 5);
        check.due("kind", reels.pocketOf(1, 0), 0);
        check.due("open", reels.pocketOf(1, 2), 1);
    }

    @Says("`kind`: 0 to 2")
    static void theGreatestKindIs2(Check check) {
        PachinkoReels reels = new PachinkoReels();
        reels.pocket(0, 2, 5);
        check.due("kind", reels.pocketOf(0, 0), 2);
        check.due("open", reels.pocketOf(0, 2), 0);
    }

    @Says("`pay`: 0 to 15")
    static void theLeastPayIs0(Check check) {
        PachinkoReels reels = Lay.oneBall(3);
        reels.pocket(3, 0, 0);
        check.due("pay", reels.pocketOf(3, 1), 0);
        reels.launch(3);
        check.due("hand", reels.count(0), 0);
    }

    @Says("`pay`: 0 to 15")
    static void theGreatestPayIs15(Check check) {
        PachinkoReels reels = Lay.oneBall(3);
        reels.pocket(3, 0, 15);
        check.due("pay", reels.pocketOf(3, 1), 15);
        reels.launch(3);
        check.due("hand", reels.count(0), 15);
    }

    @Says("Throws `IndexOutOfBoundsException` if there is no such pocket")
    static void aPocketOutside0To6IsRefused(Check check) {
        check.refusedOutside(0, 6, Check.INDEX, (reels, pocket) -> reels.pocket(pocket, 1, 1));
    }

    @Says("Throws `IllegalArgumentException` if kind or pay is out of range")
    static void aKindOutside0To2IsRefused(Check check) {
        check.refusedOutside(0, 2, Check.ARGUMENT, (reels, kind) -> reels.pocket(0, kind, 1));
        check.refusedOutside(0, 2, Check.ARGUMENT, (reels, kind) -> reels.pocket(6, kind, 1));
    }

    @Says("Throws `IllegalArgumentException` if kind or pay is out of range")
    static void aPayOutside0To15IsRefused(Check check) {
        check.refusedOutside(0, 15, Check.ARGUMENT, (reels, pay) -> reels.pocket(0, 1, pay));
        check.refusedOutside(0, 15, Check.ARGUMENT, (reels, pay) -> reels.pocket(1, 1, pay));
    }

    @Says("If several exceptions apply, the one that is named first in the throws clause is thrown.")
    static void noSuchPocketAndKindOrPayOutOfRangeIsNoSuchPocket(Check check) {
        check.refusedOutside(0, 6, Check.INDEX, (reels, pocket) -> reels.pocket(pocket, 3, 1));
        check.refusedOutside(0, 6, Check.INDEX, (reels, pocket) -> reels.pocket(pocket, 1, -1));
        check.refusedOutside(0, 6, Check.INDEX, (reels, pocket) -> reels.pocket(pocket, -1, 16));
    }

    @Says("Returns the previous pay.")
    static void returnsThePreviousPayFrom0To15(Check check) {
        PachinkoReels reels = new PachinkoReels();
        int before = 3;
        for (int pay = 0; pay <= 15; pay++) {
            check.due("previous of " + pay, reels.pocket(5, pay % 3, pay), before);
            before = pay;
        }
        check.due("previous, also if it is the same", reels.pocket(5, 0, 15), 15);
        check.due("previous, again", reels.pocket(5, 0, 0), 15);
        check.due("previous of one that pays 0", reels.pocket(5, 0, 1), 0);
    }

    @Says("0 plain: it is always open")
    static void aPocketThatBecomesPlainIsOpen(Check check) {
        PachinkoReels reels = new PachinkoReels();
        reels.pocket(1, 0, 0);
        check.due("a tulip that was shut", reels.pocketOf(1, 2), 1);
        reels.pocket(2, 0, 0);
        check.due("a reel pocket that was shut", reels.pocketOf(2, 2), 1);
    }

    @Says("1 reel: it is open as long as the reels hold it open")
    static void aPocketThatBecomesAReelPocketIsOpenAsTheReelsHoldIt(Check check) {
        PachinkoReels shut = Lay.oneBall(1);
        shut.launch(1);
        shut.pocket(1, 1, 3);
        check.due("an open tulip", shut.pocketOf(1, 2), 0);
        shut.pocket(0, 1, 3);
        check.due("a plain one", shut.pocketOf(0, 2), 0);
        PachinkoReels open = Lay.held(1, 0);
        open.pocket(1, 1, 3);
        check.due("a shut tulip", open.pocketOf(1, 2), 1);
    }

    @Says("when a pocket becomes a tulip (one that is a tulip already stays open or shut)")
    static void aPocketThatBecomesATulipIsShut(Check check) {
        PachinkoReels reels = Lay.held(6, 8);
        reels.pocket(0, 2, 1);
        check.due("a plain one", reels.pocketOf(0, 2), 0);
        reels.pocket(2, 2, 1);
        check.due("a reel pocket that was held open", reels.pocketOf(2, 2), 0);
    }

    @Says("when a pocket becomes a tulip (one that is a tulip already stays open or shut)")
    static void anOpenTulipThatWasAnotherKindInBetweenIsShut(Check check) {
        for (int between = 0; between <= 1; between++) {
            PachinkoReels reels = Lay.oneBall(1);
            reels.launch(1);
            reels.pocket(1, between, 3);
            reels.pocket(1, 2, 3);
            check.due("behind kind " + between, reels.pocketOf(1, 2), 0);
        }
    }

    @Says("(one that is a tulip already stays open or shut)")
    static void aTulipAlreadyStaysOpen(Check check) {
        PachinkoReels reels = Lay.oneBall(1);
        reels.launch(1);
        reels.pocket(1, 2, 15);
        check.due("open", reels.pocketOf(1, 2), 1);
        check.due("pay", reels.pocketOf(1, 1), 15);
    }

    @Says("(one that is a tulip already stays open or shut)")
    static void aTulipAlreadyStaysShut(Check check) {
        PachinkoReels reels = new PachinkoReels();
        reels.pocket(1, 2, 15);
        check.due("open", reels.pocketOf(1, 2), 0);
    }

    @Says("Changes a pocket.")
    static void whatCameToItAndWasPaidByItStays(Check check) {
        PachinkoReels reels = Lay.oneBall(3);
        reels.launch(3);
        reels.pocket(3, 2, 0);
        check.due("came", reels.pocketOf(3, 3), 1);
        check.due("paid", reels.pocketOf(3, 4), 2);
        check.due("start pocket", reels.count(12), 3);
    }

    @Says("Undoable.")
    static void undoBringsThePocketBack(Check check) {
        check.undoable(reels -> reels.pocket(0, 2, 15));
        check.undoable(reels -> reels.pocket(6, 1, 0));
        check.undoable(reels -> reels.pocket(1, 0, 3));
    }

    @Says("(also if it changes nothing)")
    static void aPocketThatIsAsBeforeIsSavedToo(Check check) {
        PachinkoReels reels = new PachinkoReels();
        reels.pocket(2, 1, 10);
        check.due("saved", reels.count(17), 1);
    }

    @Says("Undoable.")
    static void anOpenTulipIsOpenAgainBehindUndo(Check check) {
        PachinkoReels reels = Lay.oneBall(1);
        reels.launch(1);
        reels.pocket(1, 0, 3);
        reels.undo();
        check.due("kind", reels.pocketOf(1, 0), 2);
        check.due("open", reels.pocketOf(1, 2), 1);
    }
}
