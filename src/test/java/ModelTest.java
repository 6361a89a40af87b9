import java.util.Random;

/** All promises: long runs of calls, compared with the model, call by call. */
public final class ModelTest {
    private static final String[] CALLS = {
        "bend", "bend", "pocket", "pocket", "start", "set", "shuffle", "buy", "launch", "launch", "play", "play",
        "append", "append", "append", "clearBuffer", "firstError", "work", "work", "text", "undo", "keep", "restore",
        "pin", "bent", "touched", "pocketOf", "pocketOf", "reel", "count", "count", "ways", "walked", "ifLaunched",
        "bestColumn", "untilOpen", "payback", "digest",
    };
    private static final int[] EXTREMES = {Integer.MIN_VALUE, -2, -1, 100, 127, Integer.MAX_VALUE};
    private static final String SIGNS = "l0x130;b76<|>$925";
    private static final int MOST_CALLS = 512;

    private final Check check = new Check();
    private final Random random = new Random(20261119);
    private int calls = 0;

    public static void main(String[] args) {
        ModelTest test = new ModelTest();
        for (int run = 0; run < 150; run++) {
            test.run(run);
        }
        test.check.end();
    }

    private void run(int run) {
        PachinkoReels reels = new PachinkoReels();
        Model model = new Model();
        boolean straight = run % 3 == 0;
        calls = 0;
        // the calls of a text, and the last one, are left over
        while (calls < MOST_CALLS - 63) {
            String call = CALLS[random.nextInt(CALLS.length)];
            if (call.equals("text")) {
                write(reels, model, run);
            } else if (!straight || !call.equals("bend")) {
                int[] values = valuesFor(call);
                compare(reels, model, run, call, values);
            }
        }
        compare(reels, model, run, "digest", new int[3]);
    }

    private void compare(PachinkoReels reels, Model model, int run, String call, int[] v) {
        calls++;
        String got = Check.answerOf(() -> Asked.answer(reels, call, v[0], v[1], v[2]));
        String want = Check.answerOf(() -> model.answer(call, v[0], v[1], v[2]));
        check.due("run " + run + ": " + call + " " + v[0] + " " + v[1] + " " + v[2], got, want);
    }

    private int[] valuesFor(String call) {
        int[] limits = limitsFor(call);
        int[] values = new int[3];
        for (int i = 0; i < 3; i++) {
            boolean wild = random.nextInt(25) == 0;
            values[i] = wild ? EXTREMES[random.nextInt(EXTREMES.length)] : limits[2 * i] + random.nextInt(limits[2 * i + 1]);
        }
        if (call.equals("append") && random.nextInt(8) != 0) {
            values[0] = SIGNS.charAt(random.nextInt(SIGNS.length()));
        }
        return values;
    }

    /** For each argument the least value, and how many there are; now and then one too many. */
    private int[] limitsFor(String call) {
        int more = random.nextInt(10) == 0 ? 1 : 0;
        switch (call) {
            case "bend":
            case "pin":
                return new int[] {0, 8 + more, 0, 7 + more, -1, 3 + more};
            case "pocket":
                return new int[] {0, 7 + more, 0, 3 + more, 0, 16 + more};
            case "set":
                return new int[] {0, 2 + more, 0, 12, 0, 1};
            case "shuffle":
                return new int[] {0, 2147483647, 0, 1, 0, 1};
            case "buy":
                return new int[] {1, 40 + more, 0, 1, 0, 1};
            case "play":
                return new int[] {0, 7 + more, 1, 30 + more, 0, 1};
            case "append":
                return new int[] {32, 96, 0, 1, 0, 1};
            case "bent":
            case "touched":
                return new int[] {0, 8 + more, 0, 1, 0, 1};
            case "reel":
                return new int[] {0, 3 + more, 0, 1, 0, 1};
            case "count":
                return new int[] {0, 18 + more, 0, 1, 0, 1};
            case "pocketOf":
                return new int[] {0, 7 + more, 0, 5 + more, 0, 1};
            case "ifLaunched":
                return new int[] {0, 7 + more, 0, 4 + more, 0, 1};
            default:
                return new int[] {0, 7 + more, 0, 7 + more, 0, 1};
        }
    }

    private void write(PachinkoReels reels, Model model, int run) {
        compare(reels, model, run, "clearBuffer", new int[3]);
        StringBuilder text = new StringBuilder();
        int parts = 1 + random.nextInt(9);
        for (int i = 0; i < parts; i++) {
            text.append(i == 0 ? "" : ";").append(part());
        }
        if (random.nextInt(4) == 0) {
            text.setCharAt(random.nextInt(text.length()), SIGNS.charAt(random.nextInt(SIGNS.length())));
        }
        for (int i = 0; i < text.length() && i < 60; i++) {
            compare(reels, model, run, "append", new int[] {text.charAt(i), 0, 0});
        }
        compare(reels, model, run, "firstError", new int[3]);
    }

    private String part() {
        switch (random.nextInt(4)) {
            case 0:
                return "b" + random.nextInt(8) + random.nextInt(7) + "<|>".charAt(random.nextInt(3));
            case 1:
                return "$" + (1 + random.nextInt(30));
            default:
                return "l" + random.nextInt(7) + "x" + (1 + random.nextInt(30));
        }
    }
}
