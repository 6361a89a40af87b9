/** Promise 10: append. */
public final class Promise10AppendTest {
    public static void main(String[] args) {
        Sentences.run(Promise10AppendTest.class);
    }

    @Says("`code`: the character code, 33 to 126")
    static void theLeastCodeIs33(Check check) {
        dueTaken(check, 33);
    }

    @Says("`code`: the character code, 33 to 126")
    static void theGreatestCodeIs126(Check check) {
        dueTaken(check, 126);
    }

    @Says("`code`: the character code, 33 to 126")
    static void eachCodeIsTaken(Check check) {
        for (int code = 33; code <= 126; code++) {
            dueTaken(check, code);
        }
    }

    /** The digest ends with the length 1 and the code. */
    private static void dueTaken(Check check, int code) {
        PachinkoReels reels = new PachinkoReels();
        long before = reels.digest();
        check.due("length behind " + code, reels.append(code), 1);
        check.due("digest behind " + code, reels.digest(), (before + 1) * 31 + code);
    }

    @Says("Throws `IllegalArgumentException` if code is not 33 to 126")
    static void aCodeOutside33To126IsRefused(Check check) {
        check.refusedOutside(33, 126, Check.ARGUMENT, (reels, code) -> reels.append(code));
        for (int code : new int[] {0, 10, 255, 256 + 'l', 65536 + 'l', 'l' - 256}) {
            check.refused("code " + code, Lay::busy, Check.ARGUMENT, reels -> reels.append(code));
        }
    }

    @Says("The buffer has at most 60 characters.")
    static void theSixtiethCharacterIsTaken(Check check) {
        PachinkoReels reels = Lay.written("!".repeat(59));
        check.due("length", reels.append('~'), 60);
        check.due("cleared", reels.clearBuffer(), 60);
    }

    @Says("Throws `IllegalStateException` if the buffer has 60 characters")
    static void theSixtyFirstCharacterIsRefused(Check check) {
        check.refused("l", Lay::full, Check.STATE, reels -> reels.append('l'));
        check.refused("the least code", Lay::full, Check.STATE, reels -> reels.append(33));
        check.refused("the greatest code", Lay::full, Check.STATE, reels -> reels.append(126));
    }

    @Says("Throws `IllegalStateException` if the buffer has 60 characters")
    static void aRefusedCharacterIsNotThereBehindClearBuffer(Check check) {
        PachinkoReels reels = Lay.full();
        Check.answerOf(() -> reels.append('l'));
        check.due("cleared", reels.clearBuffer(), 60);
        check.due("the first again", reels.append('l'), 1);
    }

    @Says("If several exceptions apply, the one that is named first in the throws clause is thrown.")
    static void aCodeOutOfRangeInAFullBufferIsTheCode(Check check) {
        for (int code : new int[] {32, 127, -1, 0, Integer.MIN_VALUE, Integer.MAX_VALUE}) {
            check.refused("code " + code, Lay::full, Check.ARGUMENT, reels -> reels.append(code));
        }
    }

    @Says("Returns the new length of the buffer.")
    static void returnsEachLengthFrom1To60(Check check) {
        PachinkoReels reels = new PachinkoReels();
        for (int length = 1; length <= 60; length++) {
            check.due("length", reels.append('x'), length);
        }
        reels.clearBuffer();
        check.due("length behind clearBuffer", reels.append('x'), 1);
    }

    @Says("Appends a character to the buffer.")
    static void itComesBehindTheOthersAndChangesNothingElse(Check check) {
        PachinkoReels reels = Lay.written("$1");
        reels.append('2');
        check.dueSame("state", Told.state(reels), Told.state(new PachinkoReels()));
        reels.work();
        check.due("bought", reels.count(1), 12);
    }

    @Says("but the buffer, the saved states and the snapshot")
    static void itIsNotUndoable(Check check) {
        PachinkoReels reels = Lay.written("$1");
        check.due("saved", reels.count(17), 0);
        check.refused("undo", () -> Lay.written("$1"), Check.STATE, written -> written.undo());
    }
}
