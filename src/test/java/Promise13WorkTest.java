/** Promise 13: work. */
public final class Promise13WorkTest {
    public static void main(String[] args) {
        Sentences.run(Promise13WorkTest.class);
    }

    private static void dueRefused(Check check, String text) {
        check.refused(text, () -> Lay.written(text), Check.ARGUMENT, reels -> reels.work());
        PachinkoReels reels = Lay.written(text);
        Check.answerOf(reels::work);
        check.due("the buffer stays: " + text, reels.clearBuffer(), text.length());
        check.due("nothing is saved: " + text, reels.count(17), 0);
    }

    @Says("Throws `IllegalArgumentException` if the buffer is not complete works as a text (the buffer stays)")
    static void anEmptyBufferIsRefused(Check check) {
        dueRefused(check, "");
        check.refused("cleared", Promise13WorkTest::cleared, Check.ARGUMENT, reels -> reels.work());
    }

    private static PachinkoReels cleared() {
        PachinkoReels reels = Lay.busy();
        reels.clearBuffer();
        return reels;
    }

    @Says("Throws `IllegalArgumentException` if the buffer is not complete works as a text (the buffer stays)")
    static void aPartThatIsNotCompleteIsRefused(Check check) {
        for (String text : new String[] {"l", "l0", "l0x", "b", "b0", "b00", "$"}) {
            dueRefused(check, text);
            dueRefused(check, "$9;" + text);
        }
        check.refused("busy", Lay::busy, Check.ARGUMENT, reels -> reels.work());
    }

    @Says("Throws `IllegalArgumentException` if the buffer is not complete works as a text (the buffer stays)")
    static void aSemicolonAtTheEndIsRefused(Check check) {
        dueRefused(check, "$1;");
        dueRefused(check, "l0x30;");
        dueRefused(check, "b00<;");
        dueRefused(check, "$1;".repeat(20));
    }

    @Says("Throws `IllegalArgumentException` if the buffer is not complete works as a text (the buffer stays)")
    static void aSyntaxErrorIsRefusedWhereverItStands(Check check) {
        String[] texts = {"x", ";", "l7x1", "l0x0", "l0x31", "b80<", "b07<", "b00=", "$0", "$100", "$01", "l0x01"};
        for (String text : texts) {
            dueRefused(check, text);
            dueRefused(check, text + ";$1");
            dueRefused(check, "$1;" + text);
        }
        dueRefused(check, "$1;;$1");
        dueRefused(check, "$1" + "9".repeat(58));
    }

    @Says("Throws `IllegalArgumentException` if the buffer is not complete works as a text (the buffer stays)")
    static void aTextThatEndsInASyntaxErrorIsRefusedAsAWhole(Check check) {
        PachinkoReels reels = Lay.written("$9;b00<;l0x9;x");
        check.due("work", Check.answerOf(reels::work), "throws." + Check.ARGUMENT);
        check.due("bought", reels.count(1), 0);
        check.due("pin", reels.pin(0, 0), 1);
        check.due("launches", reels.count(2), 0);
    }

    @Says("Does what the buffer tells, part by part, and clears it.")
    static void theBufferIsEmptyBehindIt(Check check) {
        PachinkoReels reels = Lay.written("$1");
        reels.work();
        check.due("length", reels.clearBuffer(), 0);
        PachinkoReels full = Lay.written("$1;".repeat(19) + "$99");
        full.work();
        check.due("length of a full one", full.clearBuffer(), 0);
        check.due("nothing is done twice", Check.answerOf(full::work), "throws." + Check.ARGUMENT);
    }

    @Says("Does what the buffer tells, part by part, and clears it.")
    static void sixtyCharactersAreDone(Check check) {
        PachinkoReels reels = Lay.written("$1;".repeat(19) + "$99");
        check.due("paid", reels.work(), 0);
        check.due("bought", reels.count(1), 118);
        PachinkoReels launching = Lay.write(Lay.channels(0), "$99;l0x30;l0x20;b00|;b76>;b76<;l0x9;$1;$1;$1;$1;$1;l0x1;l0x1");
        check.due("characters", launching.firstError(), 60);
        launching.work();
        check.due("launches", launching.count(2), 61);
    }

    @Says("Does what the buffer tells, part by part, and clears it.")
    static void onePartIsEnough(Check check) {
        PachinkoReels launching = Lay.write(Lay.oneBall(0), "l0x1");
        launching.work();
        check.due("launches", launching.count(2), 1);
        PachinkoReels bending = Lay.written("b76>");
        bending.work();
        check.due("pin", bending.pin(7, 6), 2);
        PachinkoReels buying = Lay.written("$9");
        buying.work();
        check.due("bought", buying.count(1), 9);
    }

    @Says("Does what the buffer tells, part by part, and clears it.")
    static void thePartsAreDoneInTheirOrder(Check check) {
        PachinkoReels reels = Lay.write(Lay.channels(3), "l3x1;$1;b74>;l3x1;b74<;$1;l3x1");
        check.due("paid", reels.work(), 2);
        check.due("launches", reels.count(2), 2);
        check.due("over the pin bent to the right", reels.pocketOf(5, 3), 1);
        check.due("over the pin bent to the left", reels.pocketOf(3, 3), 1);
        check.due("the latest pocket", reels.count(11), 3);
        check.due("hand", reels.count(0), 2);
    }

    @Says("(All parts are possible.)")
    static void launchesWithoutABallArePossible(Check check) {
        PachinkoReels reels = Lay.written("l3x30");
        check.due("paid", reels.work(), 0);
        check.due("launches", reels.count(2), 0);
        check.due("saved", reels.count(17), 1);
        check.due("the buffer is cleared", reels.clearBuffer(), 0);
    }

    @Says("(so many launches there, as far as balls are in the hand)")
    static void launchesAreMadeAsFarAsBallsAreInTheHand(Check check) {
        PachinkoReels fewer = Lay.write(Lay.channels(0), "$5;l0x6");
        fewer.work();
        check.due("five", fewer.count(2), 5);
        PachinkoReels asMany = Lay.write(Lay.channels(0), "$5;l0x5");
        asMany.work();
        check.due("all five", asMany.count(2), 5);
        PachinkoReels more = Lay.write(Lay.channels(0), "$5;l0x4");
        more.work();
        check.due("four", more.count(2), 4);
        check.due("one is left", more.count(0), 1);
    }

    @Says("(so many launches there, as far as balls are in the hand)")
    static void eachNumberFrom1To30IsLaunched(Check check) {
        for (int number = 1; number <= 30; number++) {
            PachinkoReels reels = Lay.write(Lay.channels(0), "$99;l0x" + number);
            reels.work();
            check.due("launches", reels.count(2), number);
        }
    }

    @Says("(so many launches there, as far as balls are in the hand)")
    static void theyAreLaunchedAtEachColumnFrom0To6(Check check) {
        for (int column = 0; column < 7; column++) {
            PachinkoReels reels = Lay.write(Lay.oneBall(column), "l" + column + "x1");
            reels.work();
            check.due("the top pin", reels.touched(0), column);
            check.due("the pocket", reels.count(11), column);
        }
    }

    @Says("(the pin is bent so, or straight)")
    static void eachPinIsBentAndStraightened(Check check) {
        for (int pin = 0; pin < 56; pin++) {
            PachinkoReels reels = new PachinkoReels();
            String name = "b" + pin / 7 + pin % 7;
            for (int sign = 0; sign < 3; sign++) {
                Lay.write(reels, name + "<|>".charAt(sign));
                reels.work();
                check.due(name, reels.pin(pin / 7, pin % 7), sign);
                check.due("bent pins", reels.count(16), sign == 1 ? 0 : 1);
            }
            check.due("the bent pin", reels.bent(0), pin);
        }
    }

    @Says("(so many balls are bought)")
    static void eachNumberFrom1To99IsBought(Check check) {
        for (int number = 1; number <= 99; number++) {
            PachinkoReels reels = Lay.written("$" + number);
            reels.work();
            check.due("bought", reels.count(1), number);
            check.due("hand", reels.count(0), number);
        }
    }

    @Says("Returns how many balls are paid by it, together.")
    static void returnsWhatAllPartsArePaid(Check check) {
        PachinkoReels reels = Lay.channels(3);
        reels.pocket(3, 0, 15);
        Lay.write(reels, "$1;l3x30;b76>;l3x2;$5");
        check.due("paid", reels.work(), 32 * 15);
        check.due("paid so far", reels.count(3), 32 * 15);
        check.due("hand", reels.count(0), 6 + 32 * 14);
    }

    @Says("Returns how many balls are paid by it, together.")
    static void returns0IfNoneIsPaidAndNotWhatWasBought(Check check) {
        check.due("bought", Lay.written("$99").work(), 0);
        check.due("bent", Lay.written("b00<").work(), 0);
        check.due("launched", Lay.write(Lay.channels(0), "$9;l0x9").work(), 0);
    }

    @Says("Returns how many balls are paid by it, together.")
    static void whatWasPaidBeforeDoesNotCount(Check check) {
        PachinkoReels reels = Lay.oneBall(3);
        reels.launch(3);
        Lay.write(reels, "l3x1");
        check.due("paid", reels.work(), 2);
    }

    @Says("Undoable, as one call.")
    static void allPartsAreUndoneAsOneCall(Check check) {
        PachinkoReels reels = Lay.written("$9;b00<;l0x9;b00|;$1;b12>");
        reels.work();
        check.due("saved", reels.count(17), 1);
        check.due("left", reels.undo(), 0);
        check.due("digest", reels.digest(), new PachinkoReels().digest());
    }

    @Says("Undoable, as one call.")
    static void theSavedStateIsFromBeforeTheFirstPart(Check check) {
        check.undoable(() -> Lay.written("$30;l3x30;b00<"), reels -> reels.work());
        check.undoable(Promise13WorkTest::busyWithWorks, reels -> reels.work());
    }

    private static PachinkoReels busyWithWorks() {
        return Lay.write(Lay.busy(), "9;l2x9;b33|");
    }

    @Says("but the buffer, the saved states and the snapshot")
    static void theBufferIsNotBroughtBackByUndo(Check check) {
        PachinkoReels reels = Lay.written("$9");
        reels.work();
        reels.undo();
        check.due("length", reels.clearBuffer(), 0);
    }
}
