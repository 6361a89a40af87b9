import java.util.function.Supplier;

/** Promise 29: the digest, told from the face's own answers. */
public final class DigestTest {
    private static final Check CHECK = new Check();

    public static void main(String[] args) {
        due("a new object", PachinkoReels::new, "");
        due("bent pins", () -> Lay.channels(3), "");
        due("launches", DigestTest::played, "");
        due("a buffer", () -> Lay.write(played(), "l3x~!$"), "l3x~!$");
        due("each code", () -> Lay.write(played(), codes(33)), codes(33));
        due("each other code", () -> Lay.write(played(), codes(67)), codes(67));
        due("undo", DigestTest::undone, "l3");
        paybacks();
        CHECK.end();
    }

    /** Sixty characters from this code on. */
    private static String codes(int first) {
        StringBuilder text = new StringBuilder();
        for (int code = first; code < first + 60; code++) {
            text.append((char) code);
        }
        return text.toString();
    }

    private static PachinkoReels played() {
        PachinkoReels reels = Lay.channels(3);
        reels.buy(50);
        reels.play(3, 9);
        reels.play(2, 7);
        return reels;
    }

    private static PachinkoReels undone() {
        PachinkoReels reels = Lay.write(played(), "l3");
        reels.undo();
        return reels;
    }

    /** Shares below 1, of 1, and far above it, whose bits differ in exponent and fraction. */
    private static void paybacks() {
        for (int pay = 0; pay <= 15; pay++) {
            for (int launches = 1; launches <= 30; launches += 1 + launches / 4) {
                int paid = pay;
                int all = launches;
                due(pay + " of " + launches, () -> Lay.paid(paid, all), "");
            }
        }
    }

    private static void due(String what, Supplier<PachinkoReels> laid, String buffer) {
        CHECK.due("29: " + what, laid.get().digest(), Reckoned.digest(laid.get(), buffer));
    }
}
