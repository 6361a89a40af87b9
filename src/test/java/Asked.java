/** Asks an object for the call of a name. */
final class Asked {
    private Asked() {
    }

    static long answer(PachinkoReels reels, String call, int a, int b, int c) {
        switch (call) {
            case "bend":
                return reels.bend(a, b, c);
            case "pocket":
                return reels.pocket(a, b, c);
            case "start":
                return reels.start(a);
            case "set":
                return reels.set(a, b);
            case "shuffle":
                return reels.shuffle(a);
            case "buy":
                return reels.buy(a);
            case "launch":
                return reels.launch(a);
            case "play":
                return reels.play(a, b);
            case "append":
                return reels.append(a);
            case "clearBuffer":
                return reels.clearBuffer();
            case "firstError":
                return reels.firstError();
            case "work":
                return reels.work();
            case "undo":
                return reels.undo();
            case "keep":
                return reels.keep();
            case "restore":
                return reels.restore();
            default:
                return look(reels, call, a, b);
        }
    }

    private static long look(PachinkoReels reels, String call, int a, int b) {
        switch (call) {
            case "pin":
                return reels.pin(a, b);
            case "bent":
                return reels.bent(a);
            case "touched":
                return reels.touched(a);
            case "pocketOf":
                return reels.pocketOf(a, b);
            case "reel":
                return reels.reel(a);
            case "count":
                return reels.count(a);
            case "ways":
                return reels.ways(a, b);
            case "walked":
                return reels.walked(a, b);
            case "ifLaunched":
                return reels.ifLaunched(a, b);
            case "bestColumn":
                return reels.bestColumn();
            case "untilOpen":
                return reels.untilOpen(a);
            case "payback":
                return Double.doubleToLongBits(reels.payback());
            case "digest":
                return reels.digest();
            default:
                throw new UnsupportedOperationException(call);
        }
    }
}
