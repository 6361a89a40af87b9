/** Promise 11: clearBuffer. */
public final class Promise11ClearBufferTest {
    public static void main(String[] args) {
        Sentences.run(Promise11ClearBufferTest.class);
    }

    @Says("Returns the length that it had.")
    static void returns0ForAnEmptyBuffer(Check check) {
        PachinkoReels reels = new PachinkoReels();
        check.due("new", reels.clearBuffer(), 0);
        check.due("again", reels.clearBuffer(), 0);
    }

    @Says("Returns the length that it had.")
    static void returnsEachLengthUpTo60(Check check) {
        for (int length = 1; length <= 60; length++) {
            check.due("length", Lay.written("?".repeat(length)).clearBuffer(), length);
        }
    }

    @Says("Clears the buffer.")
    static void aFullBufferIsEmptyBehindIt(Check check) {
        PachinkoReels reels = Lay.full();
        reels.clearBuffer();
        check.due("length", reels.clearBuffer(), 0);
        check.due("firstError", reels.firstError(), 0);
        check.due("digest", reels.digest(), new PachinkoReels().digest());
        check.due("work", Check.answerOf(reels::work), "throws." + Check.ARGUMENT);
    }

    @Says("Clears the buffer.")
    static void sixtyCharactersFitInAgain(Check check) {
        PachinkoReels reels = Lay.full();
        reels.clearBuffer();
        Lay.write(reels, "l0x30;".repeat(9) + "b00<;");
        check.due("the sixtieth", reels.append('$'), 60);
        check.due("firstError", reels.firstError(), 60);
    }

    @Says("Clears the buffer.")
    static void nothingElseIsChangedNorSaved(Check check) {
        PachinkoReels reels = Lay.busy();
        reels.clearBuffer();
        Lay.write(reels, "$5;l3x");
        check.dueSame("with the same text again", Told.all(reels), Told.all(Lay.busy()));
        PachinkoReels fresh = Lay.written("$1");
        fresh.clearBuffer();
        check.due("saved", fresh.count(17), 0);
    }
}
