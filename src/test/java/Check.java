import java.util.function.Supplier;

/** Compares answers with those that are due, and ends with exit code 1 if one differs. */
final class Check {
    interface Call {
        long answer();
    }

    interface CallOn {
        long answer(PachinkoReels reels);
    }

    interface CallWith {
        long answer(PachinkoReels reels, int value);
    }

    static final String INDEX = "IndexOutOfBoundsException";
    static final String ARGUMENT = "IllegalArgumentException";
    static final String STATE = "IllegalStateException";

    private int seen = 0;
    private int wrong = 0;

    int seen() {
        return seen;
    }

    int wrong() {
        return wrong;
    }

    void due(String what, long got, long want) {
        compare(what, Long.toString(got), Long.toString(want));
    }

    void due(String what, double got, double want) {
        compare(what, Double.toString(got), Double.toString(want));
    }

    void due(String what, String got, String want) {
        compare(what, got, want);
    }

    /** The call throws just this exception, and changes nothing that the digest tells. */
    void throwing(String what, PachinkoReels reels, String name, Call call) {
        long before = reels.digest();
        compare(what, answerOf(call), "throws." + name);
        due(what + ", the digest behind it", reels.digest(), before);
    }

    /**
     * The call throws just this exception, and the object behind it tells the same as a twin that
     * was not asked: each look, each saved state, the snapshot and the buffer.
     */
    void refused(String what, Supplier<PachinkoReels> laid, String name, CallOn call) {
        PachinkoReels asked = laid.get();
        compare(what, answerOf(() -> call.answer(asked)), "throws." + name);
        dueSame(what + ": the object behind it", Told.all(asked), Told.all(laid.get()));
    }

    /** Refused with each value just outside of these and far from them, on a new object and on a busy one. */
    void refusedOutside(int least, int most, String name, CallWith call) {
        int[] values = {least - 1, most + 1, least - 7, most + 7, Integer.MIN_VALUE, Integer.MAX_VALUE};
        for (int value : values) {
            refused("a new object with " + value, PachinkoReels::new, name, reels -> call.answer(reels, value));
            refused("a busy object with " + value, Lay::busy, name, reels -> call.answer(reels, value));
        }
    }

    /** The state from before the call is saved, and undo brings it back, as a twin that was not asked tells it. */
    void undoable(Supplier<PachinkoReels> laid, CallOn call) {
        PachinkoReels reels = laid.get();
        int saved = reels.count(17);
        call.answer(reels);
        due("saved states", reels.count(17), Math.min(6, saved + 1));
        due("left behind undo", reels.undo(), Math.min(5, saved));
        dueSame("undone", Told.state(reels), Told.state(laid.get()));
    }

    /** Undoable on a new object and on a busy one, where the oldest saved state is dropped for it. */
    void undoable(CallOn call) {
        undoable(PachinkoReels::new, call);
        undoable(Lay::busy, call);
    }

    /** Nothing is changed by the call, nor saved. */
    void changesNothing(CallOn call) {
        PachinkoReels asked = Lay.busy();
        call.answer(asked);
        dueSame("the object behind it", Told.all(asked), Told.all(Lay.busy()));
    }

    /** Two long texts: only the first line in which they differ is told. */
    void dueSame(String what, String got, String want) {
        String[] gots = got.split("\n");
        String[] wants = want.split("\n");
        for (int i = 0; i < gots.length && i < wants.length; i++) {
            if (!gots[i].equals(wants[i])) {
                compare(what, gots[i], wants[i]);
                return;
            }
        }
        due(what + ": lines", gots.length, wants.length);
    }

    static String answerOf(Call call) {
        try {
            return Long.toString(call.answer());
        } catch (RuntimeException e) {
            return "throws." + e.getClass().getSimpleName();
        }
    }

    private void compare(String what, String got, String want) {
        seen++;
        if (!got.equals(want)) {
            wrong++;
            if (wrong <= 40) {
                System.out.println(what + " answered " + got + ", due is " + want);
            }
        }
    }

    void end() {
        System.out.println(seen + " answers seen, " + wrong + " not as due");
        if (wrong != 0 || seen == 0) {
            System.exit(1);
        }
    }
}
