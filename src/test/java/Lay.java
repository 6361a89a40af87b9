/** Lays boards on which it can be told by hand what comes. */
final class Lay {
    private static final long TWO_TO_31 = 2147483648L;

    private Lay() {
    }

    /** Bends pins so that a ball launched at this column comes to the pocket below it, without a draw. */
    static PachinkoReels channel(PachinkoReels reels, int column) {
        for (int row = 0; row < 8; row++) {
            if (column == 6) {
                reels.bend(row, 6, 1);
            } else {
                reels.bend(row, row % 2 == 0 ? column : column + 1, row % 2 == 0 ? 1 : -1);
            }
        }
        return reels;
    }

    static PachinkoReels channels(int... columns) {
        PachinkoReels reels = new PachinkoReels();
        for (int column : columns) {
            channel(reels, column);
        }
        return reels;
    }

    /** Channels, and one ball in the hand. */
    static PachinkoReels oneBall(int... columns) {
        PachinkoReels reels = channels(columns);
        reels.buy(1);
        return reels;
    }

    /** A board on which reel pockets are just held open, by a launch at the column 3; one spin waits. */
    static PachinkoReels held(int balls, int streak) {
        PachinkoReels reels = channels(0, 1, 2, 3, 4);
        reels.buy(99);
        reels.set(0, balls);
        reels.set(1, streak);
        reels.launch(3);
        spin(reels, 7, 7, 7);
        return reels;
    }

    /** A board without a streak on which reel pockets are shut, and 1 to 4 spins wait. */
    static PachinkoReels waiting(int spins) {
        PachinkoReels reels = held(1, 0);
        for (int more = 1; more < spins; more++) {
            reels.launch(3);
        }
        reels.launch(2);
        return reels;
    }

    /** A launch at the column 3, at which the spin that waits draws these, as numbers below 8. */
    static void spin(PachinkoReels reels, int... drawn) {
        reels.shuffle(xFor(8, drawn));
        reels.launch(3);
    }

    /** A board on which everything is at work: held reels, a streak, an open tulip, a snapshot, six saved states, half a text. */
    static PachinkoReels busy() {
        PachinkoReels reels = held(6, 8);
        reels.launch(1);
        reels.launch(2);
        reels.keep();
        reels.pocket(0, 2, 15);
        reels.bend(7, 6, 1);
        reels.launch(3);
        reels.start(4);
        reels.set(0, 3);
        reels.play(6, 2);
        reels.buy(1);
        return write(reels, "$5;l3x");
    }

    /** All 56 pins bent, and the pocket 6 an open tulip that paid. */
    static PachinkoReels lastOfAll() {
        PachinkoReels reels = new PachinkoReels();
        for (int pin = 55; pin >= 0; pin--) {
            reels.bend(pin / 7, pin % 7, 1);
        }
        reels.pocket(6, 2, 4);
        reels.start(6);
        reels.buy(9);
        reels.play(0, 3);
        return reels;
    }

    /** So many balls are paid, by the first of so many launches. */
    static PachinkoReels paid(int balls, int launches) {
        PachinkoReels reels = channels(0, 3);
        reels.buy(99);
        reels.pocket(3, 0, balls);
        reels.launch(3);
        for (int launch = 1; launch < launches; launch++) {
            reels.launch(0);
        }
        return reels;
    }

    static PachinkoReels write(PachinkoReels reels, String text) {
        for (char c : text.toCharArray()) {
            reels.append(c);
        }
        return reels;
    }

    static PachinkoReels written(String text) {
        return write(new PachinkoReels(), text);
    }

    /** Sixty characters. */
    static PachinkoReels full() {
        return written("$1;".repeat(20));
    }

    static long nextX(long x) {
        return (1103515245L * x + 12345L) % TWO_TO_31;
    }

    /** The least x behind which numbers below the limit are drawn as these. */
    static int xFor(int limit, int... drawn) {
        for (int x = 0; x < 100_000_000; x++) {
            if (draws(x, limit, drawn)) {
                return x;
            }
        }
        throw new IllegalArgumentException("no x draws these");
    }

    private static boolean draws(long first, int limit, int[] drawn) {
        long x = first;
        for (int number : drawn) {
            x = nextX(x);
            if (x / 65536 % limit != number) {
                return false;
            }
        }
        return true;
    }
}
