/** Lays boards on which it can be told by hand what comes. */
final class Lay {
    private static final long TWO_TO_31 = 2147483648L;

    private Lay() {
    }

    /** Bends pins so that a ball launched at this column comes to the pocket below it, without a draw. */
    static PachinkoReels channel(PachinkoReels reels, int column) {
        for (int row = 0; row < 8; row++) {
            if (column == 6) {
                reels.bend(row, 6, 1);
            } else {
                reels.bend(row, row % 2 == 0 ? column : column + 1, row % 2 == 0 ? 1 : -1);
            }
        }
        return reels;
    }

    static PachinkoReels channels(int... columns) {
        PachinkoReels reels = new PachinkoReels();
        for (int column : columns) {
            channel(reels, column);
        }
        return reels;
    }

    static PachinkoReels write(PachinkoReels reels, String text) {
        for (char c : text.toCharArray()) {
            reels.append(c);
        }
        return reels;
    }

    static long nextX(long x) {
        return (1103515245L * x + 12345L) % TWO_TO_31;
    }

    /** The least x behind which numbers below the limit are drawn as these. */
    static int xFor(int limit, int... drawn) {
        for (int x = 0; x < 100_000_000; x++) {
            if (draws(x, limit, drawn)) {
                return x;
            }
        }
        throw new IllegalArgumentException("no x draws these");
    }

    private static boolean draws(long first, int limit, int[] drawn) {
        long x = first;
        for (int number : drawn) {
            x = nextX(x);
            if (x / 65536 % limit != number) {
                return false;
            }
        }
        return true;
    }
}
