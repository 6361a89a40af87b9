/** The digest, reckoned from the face's own answers by the list of promise 29. */
final class Reckoned {
    private final PachinkoReels reels;
    private long hash = 3677;

    private Reckoned(PachinkoReels reels) {
        this.reels = reels;
    }

    /** It takes some 340 calls of the object, of which the buffer holds this text. */
    static long digest(PachinkoReels reels, String buffer) {
        Reckoned reckoned = new Reckoned(reels);
        reckoned.addBoard();
        for (int column = 0; column < 7; column++) {
            reckoned.addColumn(column);
        }
        reckoned.add(reels.bestColumn());
        reckoned.add(Double.doubleToLongBits(reels.payback()));
        reckoned.add(buffer.length());
        for (char code : buffer.toCharArray()) {
            reckoned.add(code);
        }
        return reckoned.hash;
    }

    private void add(long value) {
        hash = 31 * hash + value;
    }

    private void addBoard() {
        for (int what = 0; what < 18; what++) {
            add(reels.count(what));
        }
        for (int pin = 0; pin < 56; pin++) {
            add(reels.pin(pin / 7, pin % 7));
        }
        int bent = reels.count(16);
        for (int place = 0; place < bent; place++) {
            add(reels.bent(place));
        }
        for (int place = 0; place < 8; place++) {
            add(reels.touched(place));
        }
        for (int i = 0; i < 35; i++) {
            add(reels.pocketOf(i / 5, i % 5));
        }
        for (int reel = 0; reel < 3; reel++) {
            add(reels.reel(reel));
        }
    }

    private void addColumn(int column) {
        for (int pocket = 0; pocket < 7; pocket++) {
            add(reels.ways(column, pocket));
            add(reels.walked(column, pocket));
        }
        for (int what = 0; what < 4; what++) {
            add(reels.ifLaunched(column, what));
        }
        add(reels.untilOpen(column));
    }
}
