/** Promise 29: the digest, told from the face's own answers, and that each of them counts in it. */
public final class DigestTest {
    private static final Check CHECK = new Check();

    public static void main(String[] args) {
        PachinkoReels reels = new PachinkoReels();
        due("a new object", reels);
        Lay.channel(reels, 3);
        due("bent pins", reels);
        reels.buy(50);
        reels.play(3, 9);
        reels.play(2, 7);
        due("launches", reels);
        Lay.write(reels, "l3x~!$");
        due("a buffer", reels);
        for (int code = 33; code <= 86; code++) {
            reels.append(code);
        }
        due("a full buffer", reels);
        reels.undo();
        due("undo", reels);
        paybacks();
        CHECK.due("29: a look changes nothing", reels.digest(), reels.digest());
        CHECK.end();
    }

    /** Shares below 1, of 1, and far above it, whose bits differ in exponent and fraction. */
    private static void paybacks() {
        PachinkoReels reels = Lay.channels(0, 3);
        reels.buy(99);
        reels.pocket(3, 0, 1);
        reels.launch(3);
        due("a payback of 1", reels);
        for (int launch = 0; launch < 60; launch++) {
            reels.play(0, 1);
            due("a payback below 1", reels);
        }
        for (int pay = 1; pay <= 15; pay++) {
            PachinkoReels paying = Lay.channels(0, 3);
            paying.buy(3);
            paying.pocket(3, 0, pay);
            paying.launch(3);
            due("a payback of " + pay, paying);
            paying.launch(0);
            paying.launch(0);
            due("a third of " + pay, paying);
        }
    }

    private static void due(String what, PachinkoReels reels) {
        CHECK.due("29: " + what, reels.digest(), reckoned(reels));
    }

    private static long reckoned(PachinkoReels reels) {
        long hash = 3677;
        for (int what = 0; what < 18; what++) {
            hash = 31 * hash + reels.count(what);
        }
        for (int pin = 0; pin < 56; pin++) {
            hash = 31 * hash + reels.pin(pin / 7, pin % 7);
        }
        for (int place = 0; place < reels.count(16); place++) {
            hash = 31 * hash + reels.bent(place);
        }
        for (int place = 0; place < 8; place++) {
            hash = 31 * hash + reels.touched(place);
        }
        for (int i = 0; i < 35; i++) {
            hash = 31 * hash + reels.pocketOf(i / 5, i % 5);
        }
        for (int reel = 0; reel < 3; reel++) {
            hash = 31 * hash + reels.reel(reel);
        }
        for (int column = 0; column < 7; column++) {
            hash = withColumn(hash, reels, column);
        }
        hash = 31 * hash + reels.bestColumn();
        hash = 31 * hash + Double.doubleToLongBits(reels.payback());
        return withBuffer(hash, reels);
    }

    private static long withColumn(long before, PachinkoReels reels, int column) {
        long hash = before;
        for (int pocket = 0; pocket < 7; pocket++) {
            hash = 31 * hash + reels.ways(column, pocket);
            hash = 31 * hash + reels.walked(column, pocket);
        }
        for (int what = 0; what < 4; what++) {
            hash = 31 * hash + reels.ifLaunched(column, what);
        }
        return 31 * hash + reels.untilOpen(column);
    }

    /** The characters that these tests write, as far as the buffer holds some. */
    private static long withBuffer(long before, PachinkoReels reels) {
        String written = "l3x~!$";
        for (int code = 33; code <= 86; code++) {
            written += (char) code;
        }
        int length = reels.clearBuffer();
        long hash = 31 * before + length;
        for (int i = 0; i < length; i++) {
            hash = 31 * hash + written.charAt(i);
            reels.append(written.charAt(i));
        }
        return hash;
    }
}
