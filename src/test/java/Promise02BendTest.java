/** Promise 2: bend. */
public final class Promise02BendTest {
    public static void main(String[] args) {
        Sentences.run(Promise02BendTest.class);
    }

    @Says("`row`: 0 to 7")
    static void theLeastRowIs0(Check check) {
        PachinkoReels reels = new PachinkoReels();
        check.due("bend", reels.bend(0, 3, -1), 1);
        check.due("the pin", reels.pin(0, 3), 0);
        check.due("the one bent pin", reels.bent(0), 3);
    }

    @Says("`row`: 0 to 7")
    static void theGreatestRowIs7(Check check) {
        PachinkoReels reels = new PachinkoReels();
        check.due("bend", reels.bend(7, 3, -1), 1);
        check.due("the pin", reels.pin(7, 3), 0);
        check.due("the one bent pin", reels.bent(0), 52);
    }

    @Says("`column`: 0 to 6")
    static void theLeastColumnIs0(Check check) {
        PachinkoReels reels = new PachinkoReels();
        check.due("bend", reels.bend(2, 0, 1), 1);
        check.due("the pin", reels.pin(2, 0), 2);
        check.due("the one bent pin", reels.bent(0), 14);
    }

    @Says("`column`: 0 to 6")
    static void theGreatestColumnIs6(Check check) {
        PachinkoReels reels = new PachinkoReels();
        check.due("bend", reels.bend(2, 6, 1), 1);
        check.due("the pin", reels.pin(2, 6), 2);
        check.due("the one bent pin", reels.bent(0), 20);
    }

    @Says("The board has 8 rows of 7 pins; a pin has a row, 0 (the top one) to 7, and a column, 0 to 6.")
    static void eachOfThe56PinsIsOneOfItsOwn(Check check) {
        for (int pin = 0; pin < 56; pin++) {
            PachinkoReels reels = new PachinkoReels();
            reels.bend(pin / 7, pin % 7, 1);
            for (int other = 0; other < 56; other++) {
                check.due("pin " + other, reels.pin(other / 7, other % 7), other == pin ? 2 : 1);
            }
        }
    }

    @Says("`to`: -1, 0 (straight) or 1")
    static void theLeastToIsMinus1(Check check) {
        PachinkoReels reels = new PachinkoReels();
        reels.bend(4, 4, -1);
        check.due("the pin", reels.pin(4, 4), 0);
    }

    @Says("`to`: -1, 0 (straight) or 1")
    static void theGreatestToIs1(Check check) {
        PachinkoReels reels = new PachinkoReels();
        reels.bend(4, 4, 1);
        check.due("the pin", reels.pin(4, 4), 2);
    }

    @Says("`to`: -1, 0 (straight) or 1")
    static void toIs0ForAStraightPin(Check check) {
        PachinkoReels reels = new PachinkoReels();
        reels.bend(4, 4, 1);
        reels.bend(4, 4, 0);
        check.due("the pin", reels.pin(4, 4), 1);
        check.due("bent pins", reels.count(16), 0);
    }

    @Says("Throws `IndexOutOfBoundsException` if there is no such pin")
    static void aRowOutside0To7IsRefused(Check check) {
        check.refusedOutside(0, 7, Check.INDEX, (reels, row) -> reels.bend(row, 0, 1));
        check.refusedOutside(0, 7, Check.INDEX, (reels, row) -> reels.bend(row, 6, -1));
    }

    @Says("Throws `IndexOutOfBoundsException` if there is no such pin")
    static void aColumnOutside0To6IsRefused(Check check) {
        check.refusedOutside(0, 6, Check.INDEX, (reels, column) -> reels.bend(3, column, 1));
        check.refusedOutside(0, 6, Check.INDEX, (reels, column) -> reels.bend(0, column, -1));
        check.refusedOutside(0, 6, Check.INDEX, (reels, column) -> reels.bend(7, column, 0));
    }

    @Says("Throws `IllegalArgumentException` if to is out of range")
    static void toOutsideMinus1To1IsRefused(Check check) {
        check.refusedOutside(-1, 1, Check.ARGUMENT, (reels, to) -> reels.bend(0, 0, to));
        check.refusedOutside(-1, 1, Check.ARGUMENT, (reels, to) -> reels.bend(7, 6, to));
    }

    @Says("If several exceptions apply, the one that is named first in the throws clause is thrown.")
    static void noSuchPinAndToOutOfRangeIsNoSuchPin(Check check) {
        check.refusedOutside(0, 7, Check.INDEX, (reels, row) -> reels.bend(row, 0, 2));
        check.refusedOutside(0, 6, Check.INDEX, (reels, column) -> reels.bend(0, column, -2));
        check.refusedOutside(0, 6, Check.INDEX, (reels, column) -> reels.bend(8, column, 2));
    }

    @Says("Returns how it was bent before, and 1 more.")
    static void returnsTheBendBeforeAnd1More(Check check) {
        for (int before = -1; before <= 1; before++) {
            for (int to = -1; to <= 1; to++) {
                PachinkoReels reels = new PachinkoReels();
                check.due("at first", reels.bend(5, 1, before), 1);
                check.due("from " + before, reels.bend(5, 1, to), before + 1);
                check.due("then", reels.pin(5, 1), to + 1);
            }
        }
    }

    @Says("Bends a pin.")
    static void theNextBallGoesAsThePinIsBent(Check check) {
        PachinkoReels reels = new PachinkoReels();
        reels.bend(0, 3, -1);
        reels.buy(2);
        reels.launch(3);
        check.due("to the left", reels.touched(1), 7 + 2);
        reels.bend(0, 3, 1);
        reels.launch(3);
        check.due("to the right", reels.touched(1), 7 + 4);
    }

    @Says("Undoable.")
    static void undoBringsTheBendBack(Check check) {
        check.undoable(reels -> reels.bend(0, 0, -1));
        check.undoable(reels -> reels.bend(7, 6, 1));
        check.undoable(reels -> reels.bend(0, 0, 0));
    }

    @Says("(also if it changes nothing)")
    static void aPinThatIsBentAsBeforeIsSavedToo(Check check) {
        PachinkoReels reels = new PachinkoReels();
        reels.bend(3, 3, 0);
        check.due("straight as before", reels.count(17), 1);
        reels.bend(3, 3, 1);
        reels.bend(3, 3, 1);
        check.due("to the right as before", reels.count(17), 3);
        reels.undo();
        check.due("the pin", reels.pin(3, 3), 2);
    }
}
