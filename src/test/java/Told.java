/** All that an object tells, as a text, to be compared with that of another one. */
final class Told {
    private final PachinkoReels reels;
    private final StringBuilder text = new StringBuilder();

    private Told(PachinkoReels reels) {
        this.reels = reels;
    }

    /** What undo and the snapshot bring back: not the buffer, not the saved states. */
    static String state(PachinkoReels reels) {
        Told told = new Told(reels);
        told.addState();
        return told.text.toString();
    }

    /** The state, then the buffer, the saved states and the snapshot, which are used up by it. */
    static String all(PachinkoReels reels) {
        Told told = new Told(reels);
        told.addState();
        told.addHidden();
        return told.text.toString();
    }

    private void add(String name, Object answer) {
        text.append(name).append(' ').append(answer).append('\n');
    }

    private void addState() {
        for (int what = 0; what < 17; what++) {
            add("count " + what, reels.count(what));
        }
        for (int pin = 0; pin < 56; pin++) {
            add("pin " + pin, reels.pin(pin / 7, pin % 7));
        }
        int bent = reels.count(16);
        for (int place = 0; place <= bent; place++) {
            add("bent " + place, reels.bent(place));
        }
        for (int place = 0; place < 8; place++) {
            add("touched " + place, reels.touched(place));
        }
        for (int i = 0; i < 35; i++) {
            add("pocket " + i / 5 + " " + i % 5, reels.pocketOf(i / 5, i % 5));
        }
        for (int reel = 0; reel < 3; reel++) {
            add("reel " + reel, reels.reel(reel));
        }
        addChances();
    }

    private void addChances() {
        for (int column = 0; column < 7; column++) {
            add("ways " + column, reels.ways(column, 3));
            add("walked " + column, reels.walked(column, 3));
            for (int what = 0; what < 4; what++) {
                add("ifLaunched " + column + " " + what, reels.ifLaunched(column, what));
            }
            add("untilOpen " + column, reels.untilOpen(column));
        }
        add("bestColumn", reels.bestColumn());
        add("payback", reels.payback());
    }

    private void addHidden() {
        add("count 17", reels.count(17));
        add("firstError", reels.firstError());
        add("digest", reels.digest());
        for (int i = 0; i < 7; i++) {
            add("undo", Check.answerOf(reels::undo));
            add("the digest behind it", reels.digest());
        }
        add("restore", Check.answerOf(reels::restore));
        add("the digest behind it", reels.digest());
        add("clearBuffer", reels.clearBuffer());
    }
}
