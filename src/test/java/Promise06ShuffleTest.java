import java.math.BigInteger;

/** Promise 6: shuffle. */
public final class Promise06ShuffleTest {
    private static final int GREATEST = 2147483647;

    public static void main(String[] args) {
        Sentences.run(Promise06ShuffleTest.class);
    }

    @Says("`number`: 0 to 2147483647")
    static void theLeastNumberIs0(Check check) {
        PachinkoReels reels = new PachinkoReels();
        reels.shuffle(0);
        check.due("x", reels.count(13), 0);
    }

    @Says("`number`: 0 to 2147483647")
    static void theGreatestNumberIs2147483647(Check check) {
        PachinkoReels reels = new PachinkoReels();
        reels.shuffle(GREATEST);
        check.due("x", reels.count(13), GREATEST);
    }

    @Says("Throws `IllegalArgumentException` if number is below 0")
    static void aNumberBelow0IsRefused(Check check) {
        for (int number : new int[] {-1, -2, -65536, -GREATEST, Integer.MIN_VALUE}) {
            check.refused("new, " + number, PachinkoReels::new, Check.ARGUMENT, reels -> reels.shuffle(number));
            check.refused("busy, " + number, Lay::busy, Check.ARGUMENT, reels -> reels.shuffle(number));
        }
    }

    @Says("Returns the previous x.")
    static void returnsThePreviousX(Check check) {
        PachinkoReels reels = new PachinkoReels();
        check.due("the first", reels.shuffle(0), 1);
        check.due("the least", reels.shuffle(GREATEST), 0);
        check.due("the greatest", reels.shuffle(GREATEST), GREATEST);
        check.due("the same", reels.shuffle(5), GREATEST);
    }

    @Says("Returns the previous x.")
    static void returnsTheXBehindDraws(Check check) {
        PachinkoReels reels = drawingOnce();
        reels.shuffle(7);
        reels.launch(3);
        check.due("one draw from 7", reels.shuffle(0), Lay.nextX(7));
    }

    @Says("x becomes (1103515245 times x, and 12345) modulo 2147483648 (reckoned without overflow)")
    static void theDrawWrapsAroundWithoutOverflow(Check check) {
        dueDraw(check, 0, 12345);
        dueDraw(check, 1, 1103527590);
        dueDraw(check, 2, 59559187);
        dueDraw(check, GREATEST, 1043980748);
        dueDraw(check, GREATEST - 1, 2087949151);
        dueDraw(check, 1073741824, 1073754169);
        dueDraw(check, 65535, (int) Lay.nextX(65535));
    }

    private static void dueDraw(Check check, int from, int due) {
        PachinkoReels reels = drawingOnce();
        reels.shuffle(from);
        reels.launch(3);
        check.due("from " + from, reels.count(13), due);
        check.due("the side of " + due, reels.touched(1), 7 + (due / 65536 % 2 == 0 ? 2 : 4));
    }

    /** A launch at the column 3 draws for the row 0 alone. */
    private static PachinkoReels drawingOnce() {
        PachinkoReels reels = new PachinkoReels();
        for (int row = 1; row < 8; row++) {
            for (int column = 0; column < 7; column++) {
                reels.bend(row, column, 1);
            }
        }
        reels.buy(9);
        return reels;
    }

    @Says("divisions are rounded down")
    static void xDividedBy65536IsRoundedDown(Check check) {
        for (int low : new int[] {0, 1, 32767, 32768, 65534, 65535}) {
            dueNumber(check, 16838, low, 2);
            dueNumber(check, 16839, low, 4);
            dueNumber(check, 0, low, 2);
            dueNumber(check, 32767, low, 4);
        }
    }

    @Says("the number is x divided by 65536, modulo m")
    static void theNumberIsModulo2Or4Or8(Check check) {
        PachinkoReels reels = Lay.held(1, 1);
        reels.launch(3);
        reels.launch(2);
        // two spins wait, the first is in the streak; then the ball draws at the pin in the row 0
        reels.bend(0, 3, 0);
        Lay.spin(reels, 7, 6, 5, 4);
        check.due("modulo 4", signs(reels), 321);
        check.due("modulo 2", reels.touched(1), 7 + 2);
        Lay.spin(reels, 7, 6, 5, 5);
        check.due("modulo 8", signs(reels), 765);
        check.due("modulo 2 again", reels.touched(1), 7 + 4);
    }

    private static int signs(PachinkoReels reels) {
        return reels.reel(0) * 100 + reels.reel(1) * 10 + reels.reel(2);
    }

    /** x becomes 65536 times the high part and the low part; the ball then goes to that column. */
    private static void dueNumber(Check check, int high, int low, int column) {
        PachinkoReels reels = drawingOnce();
        int x = high * 65536 + low;
        reels.shuffle(behind(x));
        reels.launch(3);
        check.due("x", reels.count(13), x);
        check.due("the column behind " + x, reels.touched(1), 7 + column);
    }

    /** The x from which a draw comes to this one: the multiplier's inverse modulo 2147483648 leads back. */
    private static int behind(int x) {
        BigInteger modulus = BigInteger.ONE.shiftLeft(31);
        BigInteger inverse = BigInteger.valueOf(1103515245).modInverse(modulus);
        return BigInteger.valueOf(x - 12345L).multiply(inverse).mod(modulus).intValueExact();
    }

    @Says("Undoable.")
    static void undoBringsXBack(Check check) {
        check.undoable(reels -> reels.shuffle(0));
        check.undoable(reels -> reels.shuffle(GREATEST));
    }

    @Says("(also if it changes nothing)")
    static void theSameXIsSavedToo(Check check) {
        PachinkoReels reels = new PachinkoReels();
        reels.shuffle(1);
        check.due("saved", reels.count(17), 1);
    }

    @Says("Changes x.")
    static void theNextBallDrawsFromIt(Check check) {
        PachinkoReels reels = new PachinkoReels();
        reels.buy(1);
        reels.shuffle(Lay.xFor(2, 0, 0, 0, 0, 0, 0, 0, 0));
        check.due("always to the left", reels.launch(6), 0);
    }
}
