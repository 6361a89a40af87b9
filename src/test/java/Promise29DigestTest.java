import java.util.function.Supplier;

/** Promise 29: digest. */
public final class Promise29DigestTest {
    private static final String STEP = "For each value v of the following list, in order, the hash becomes 31 * hash + v, in long arithmetic with overflow.";

    public static void main(String[] args) {
        Sentences.run(Promise29DigestTest.class);
    }

    /** The object is made twice, as one alone would be asked too often. */
    private static void due(Check check, Supplier<PachinkoReels> laid, String buffer) {
        check.due("digest", laid.get().digest(), Reckoned.digest(laid.get(), buffer));
    }

    @Says("The hash starts at 3677.")
    static void aNewObjectIsReckonedFrom3677(Check check) {
        due(check, PachinkoReels::new, "");
    }

    @Says(STEP)
    static void aBusyObjectIsReckonedWithOverflow(Check check) {
        due(check, Lay::busy, "$5;l3x");
        due(check, () -> Lay.held(10, 20), "");
        due(check, () -> Lay.waiting(4), "");
    }

    @Says(STEP)
    static void theGreatestXIsReckoned(Check check) {
        due(check, () -> shuffled(Integer.MAX_VALUE), "");
        due(check, () -> shuffled(0), "");
    }

    private static PachinkoReels shuffled(int x) {
        PachinkoReels reels = new PachinkoReels();
        reels.shuffle(x);
        return reels;
    }

    @Says("each bent pin, in their order")
    static void withoutABentPinAndWithAll56(Check check) {
        due(check, Promise29DigestTest::allBent, "");
        PachinkoReels one = new PachinkoReels();
        one.bend(0, 1, 1);
        one.bend(0, 2, 1);
        PachinkoReels other = new PachinkoReels();
        other.bend(0, 2, 1);
        other.bend(0, 1, 1);
        check.due("another order is another digest", one.digest() == other.digest() ? 1 : 0, 0);
        due(check, () -> Lay.channels(3, 0), "");
    }

    private static PachinkoReels allBent() {
        PachinkoReels reels = new PachinkoReels();
        for (int pin = 55; pin >= 0; pin--) {
            reels.bend(pin / 7, pin % 7, pin % 3 == 0 ? 1 : -1);
        }
        return reels;
    }

    @Says("touched of 0 to 7")
    static void withoutABallEachIsNone(Check check) {
        due(check, () -> Lay.oneBall(0), "");
        due(check, Promise29DigestTest::launched, "");
    }

    private static PachinkoReels launched() {
        PachinkoReels reels = Lay.oneBall(0);
        reels.launch(0);
        return reels;
    }

    @Says("the length of the buffer and each of its character codes")
    static void withAnEmptyAFullAndAClearedBuffer(Check check) {
        due(check, () -> Lay.written("!"), "!");
        due(check, () -> Lay.written("~".repeat(59)), "~".repeat(59));
        due(check, Lay::full, "$1;".repeat(20));
        due(check, Promise29DigestTest::cleared, "l");
    }

    /** Of the sixty characters that were there, one is left. */
    private static PachinkoReels cleared() {
        PachinkoReels reels = Lay.full();
        reels.clearBuffer();
        return Lay.write(reels, "l");
    }

    @Says("the bits of payback (as Double.doubleToLongBits)")
    static void withAPaybackOf0AndBelow1AndOf1AndAbove(Check check) {
        int[][] shares = {{0, 1}, {1, 1}, {1, 2}, {1, 3}, {2, 3}, {1, 30}, {15, 1}, {15, 2}, {15, 7}, {14, 13}, {7, 29}};
        for (int[] share : shares) {
            due(check, () -> Lay.paid(share[0], share[1]), "");
        }
    }

    @Says("The values are: count(0) to count(17)")
    static void eachChangedNumberChangesIt(Check check) {
        long fresh = new PachinkoReels().digest();
        check.due("setting 1", changed(reels -> reels.set(1, 9)) == fresh ? 1 : 0, 0);
        check.due("saved states alone", changed(reels -> reels.set(1, 8)) - changed(reels -> 0), pow31(56 + 8 + 35 + 3 + 7 * 19 + 3));
        check.due("a look changes nothing", changed(reels -> reels.digest()), fresh);
    }

    /** Behind count(17), which is 1 more, come so many values on a board without bent pins and characters. */
    private static long pow31(int values) {
        long power = 1;
        for (int i = 0; i < values; i++) {
            power *= 31;
        }
        return power;
    }

    private static long changed(Check.CallOn call) {
        PachinkoReels reels = new PachinkoReels();
        call.answer(reels);
        return reels.digest();
    }

    @Says("Returns the hash.")
    static void itIsALongAndNotAnInt(Check check) {
        long hash = new PachinkoReels().digest();
        check.due("more than 32 bits", hash == (int) hash ? 1 : 0, 0);
        check.due("of a new object", hash, Reckoned.digest(new PachinkoReels(), ""));
    }

    @Says("nothing is changed")
    static void nothingIsChanged(Check check) {
        check.changesNothing(reels -> reels.digest());
    }

    @Says("Computes a hash of the whole state.")
    static void undoAndRestoreBringTheDigestBack(Check check) {
        PachinkoReels reels = new PachinkoReels();
        reels.keep();
        long before = reels.digest();
        reels.buy(9);
        reels.undo();
        check.due("undo", reels.digest(), before);
        reels.buy(9);
        reels.restore();
        reels.undo();
        reels.undo();
        check.due("restore, and both undone", reels.digest(), before);
    }
}
