/** Promise 17: pin. */
public final class Promise17PinTest {
    public static void main(String[] args) {
        Sentences.run(Promise17PinTest.class);
    }

    /** Each pin straight but for this one. */
    private static void dueAlone(Check check, int row, int column) {
        PachinkoReels reels = new PachinkoReels();
        reels.bend(row, column, -1);
        for (int pin = 0; pin < 56; pin++) {
            boolean isIt = pin == 7 * row + column;
            check.due("pin " + pin, reels.pin(pin / 7, pin % 7), isIt ? 0 : 1);
        }
    }

    @Says("`row`: 0 to 7")
    static void theLeastRowIs0(Check check) {
        dueAlone(check, 0, 3);
    }

    @Says("`row`: 0 to 7")
    static void theGreatestRowIs7(Check check) {
        dueAlone(check, 7, 3);
    }

    @Says("`column`: 0 to 6")
    static void theLeastColumnIs0(Check check) {
        dueAlone(check, 3, 0);
    }

    @Says("`column`: 0 to 6")
    static void theGreatestColumnIs6(Check check) {
        dueAlone(check, 3, 6);
    }

    @Says("Throws `IndexOutOfBoundsException` if there is no such pin")
    static void aRowOutside0To7IsRefused(Check check) {
        check.refusedOutside(0, 7, Check.INDEX, (reels, row) -> reels.pin(row, 0));
        check.refusedOutside(0, 7, Check.INDEX, (reels, row) -> reels.pin(row, 6));
    }

    @Says("Throws `IndexOutOfBoundsException` if there is no such pin")
    static void aColumnOutside0To6IsRefused(Check check) {
        check.refusedOutside(0, 6, Check.INDEX, (reels, column) -> reels.pin(0, column));
        check.refusedOutside(0, 6, Check.INDEX, (reels, column) -> reels.pin(3, column));
        check.refusedOutside(0, 6, Check.INDEX, (reels, column) -> reels.pin(7, column));
    }

    @Says("Returns 0 to the left, 1 straight, 2 to the right.")
    static void returns0ToTheLeft1StraightAnd2ToTheRight(Check check) {
        PachinkoReels reels = new PachinkoReels();
        check.due("at first", reels.pin(2, 4), 1);
        reels.bend(2, 4, -1);
        check.due("to the left", reels.pin(2, 4), 0);
        reels.bend(2, 4, 1);
        check.due("to the right", reels.pin(2, 4), 2);
        reels.bend(2, 4, 0);
        check.due("straight", reels.pin(2, 4), 1);
    }

    @Says("Tells how a pin is bent.")
    static void itTellsHowThePinIsBentNow(Check check) {
        PachinkoReels reels = new PachinkoReels();
        reels.bend(7, 6, -1);
        reels.undo();
        check.due("behind undo", reels.pin(7, 6), 1);
        Lay.write(reels, "b76>").work();
        check.due("behind work", reels.pin(7, 6), 2);
    }

    @Says("nothing is changed")
    static void nothingIsChanged(Check check) {
        check.changesNothing(reels -> reels.pin(7, 6));
    }
}
