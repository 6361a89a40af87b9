/** Compares answers with those that are due, and ends with exit code 1 if one differs. */
final class Check {
    interface Call {
        long answer();
    }

    static final String INDEX = "IndexOutOfBoundsException";
    static final String ARGUMENT = "IllegalArgumentException";
    static final String STATE = "IllegalStateException";

    private int seen = 0;
    private int wrong = 0;

    void due(String what, long got, long want) {
        compare(what, Long.toString(got), Long.toString(want));
    }

    void due(String what, double got, double want) {
        compare(what, Double.toString(got), Double.toString(want));
    }

    void due(String what, String got, String want) {
        compare(what, got, want);
    }

    /** The call throws just this exception, and changes nothing that the digest tells. */
    void throwing(String what, PachinkoReels reels, String name, Call call) {
        long before = reels.digest();
        compare(what, answerOf(call), "throws." + name);
        due(what + ", the digest behind it", reels.digest(), before);
    }

    static String answerOf(Call call) {
        try {
            return Long.toString(call.answer());
        } catch (RuntimeException e) {
            return "throws." + e.getClass().getSimpleName();
        }
    }

    private void compare(String what, String got, String want) {
        seen++;
        if (!got.equals(want)) {
            wrong++;
            if (wrong <= 40) {
                System.out.println(what + " answered " + got + ", due is " + want);
            }
        }
    }

    void end() {
        System.out.println(seen + " answers seen, " + wrong + " not as due");
        if (wrong != 0 || seen == 0) {
            System.exit(1);
        }
    }
}
