/** Promise 1: a new object. */
public final class Promise01NewObjectTest {
    public static void main(String[] args) {
        Sentences.run(Promise01NewObjectTest.class);
    }

    @Says("without balls in the hand and a snapshot")
    static void theHandIsEmpty(Check check) {
        check.due("hand", new PachinkoReels().count(0), 0);
        check.refused("launch", PachinkoReels::new, Check.STATE, reels -> reels.launch(0));
    }

    @Says("without balls in the hand and a snapshot")
    static void thereIsNoSnapshot(Check check) {
        check.refused("restore", PachinkoReels::new, Check.STATE, reels -> reels.restore());
    }

    @Says("with an empty buffer")
    static void theBufferIsEmpty(Check check) {
        check.due("firstError", new PachinkoReels().firstError(), 0);
        check.due("clearBuffer", new PachinkoReels().clearBuffer(), 0);
        check.due("the first character", new PachinkoReels().append('$'), 1);
        check.refused("work", PachinkoReels::new, Check.ARGUMENT, reels -> reels.work());
    }

    @Says("Creates a board as told above")
    static void nothingIsCountedNorSaved(Check check) {
        PachinkoReels reels = new PachinkoReels();
        int[] counts = {0, 0, 0, 0, 0, 0, 0, 0, 0, 0, 0, -1, 3, 1, 6, 8, 0, 0};
        for (int what = 0; what < counts.length; what++) {
            check.due("count " + what, reels.count(what), counts[what]);
        }
        for (int pocket = 0; pocket < 7; pocket++) {
            check.due("came to " + pocket, reels.pocketOf(pocket, 3), 0);
            check.due("paid by " + pocket, reels.pocketOf(pocket, 4), 0);
        }
        check.refused("undo", PachinkoReels::new, Check.STATE, fresh -> fresh.undo());
    }

    @Says("Creates a board as told above")
    static void eachObjectIsABoardOfItsOwn(Check check) {
        PachinkoReels one = new PachinkoReels();
        PachinkoReels other = new PachinkoReels();
        Lay.write(Lay.channel(one, 3), "$9;b06<;l3x9").work();
        one.pocket(0, 2, 15);
        one.start(6);
        one.set(0, 1);
        one.keep();
        Lay.write(one, "l");
        check.dueSame("the other", Told.all(other), Told.all(new PachinkoReels()));
    }

    @Says("A pin is straight, at first")
    static void eachPinIsStraight(Check check) {
        PachinkoReels reels = new PachinkoReels();
        for (int pin = 0; pin < 56; pin++) {
            check.due("pin " + pin, reels.pin(pin / 7, pin % 7), 1);
        }
        check.due("bent pins", reels.count(16), 0);
        check.due("the first bent one", reels.bent(0), PachinkoReels.NONE);
    }

    @Says("At first the pockets have the kinds 0, 2, 1, 0, 1, 2, 0 and the pays 0, 3, 10, 2, 10, 3, 0")
    static void kindsAndPays(Check check) {
        PachinkoReels reels = new PachinkoReels();
        int[] kinds = {0, 2, 1, 0, 1, 2, 0};
        int[] pays = {0, 3, 10, 2, 10, 3, 0};
        for (int pocket = 0; pocket < 7; pocket++) {
            check.due("kind of " + pocket, reels.pocketOf(pocket, 0), kinds[pocket]);
            check.due("pay of " + pocket, reels.pocketOf(pocket, 1), pays[pocket]);
        }
    }

    @Says("tulips are shut at first")
    static void tulipsAreShut(Check check) {
        PachinkoReels reels = new PachinkoReels();
        check.due("pocket 1", reels.pocketOf(1, 2), 0);
        check.due("pocket 5", reels.pocketOf(5, 2), 0);
    }

    @Says("1 reel: it is open as long as the reels hold it open")
    static void reelPocketsAreShutAndPlainOnesOpen(Check check) {
        PachinkoReels reels = new PachinkoReels();
        int[] open = {1, 0, 0, 1, 0, 0, 1};
        for (int pocket = 0; pocket < 7; pocket++) {
            check.due("open " + pocket, reels.pocketOf(pocket, 2), open[pocket]);
        }
        check.due("held for", reels.count(9), 0);
    }

    @Says("One pocket is the start pocket, at first 3")
    static void theStartPocketIs3(Check check) {
        check.due("start", new PachinkoReels().count(12), 3);
    }

    @Says("each shows a sign, 0 to 7, at first 0, 1 and 2")
    static void theReelsShow0And1And2(Check check) {
        for (int reel = 0; reel < 3; reel++) {
            check.due("reel " + reel, new PachinkoReels().reel(reel), reel);
        }
    }

    @Says("0: balls, 1 to 10, at first 6; 1: spins of a streak, 0 to 20, at first 8.")
    static void theSettingsAre6And8(Check check) {
        check.due("setting 0", new PachinkoReels().count(14), 6);
        check.due("setting 1", new PachinkoReels().count(15), 8);
    }

    @Says("x is 1 at first.")
    static void xIs1(Check check) {
        check.due("x", new PachinkoReels().count(13), 1);
        PachinkoReels reels = new PachinkoReels();
        for (int row = 1; row < 8; row++) {
            for (int column = 0; column < 7; column++) {
                reels.bend(row, column, 1);
            }
        }
        reels.buy(1);
        reels.launch(3);
        check.due("x behind one draw", reels.count(13), 1103527590);
        // 1103527590 / 65536 is 16838, which is even
        check.due("the number is 0", reels.touched(1), 7 + 2);
    }

    @Says("`NONE = -1`: There is nothing to return.")
    static void noneIsMinus1(Check check) {
        check.due("NONE", PachinkoReels.NONE, -1);
        check.due("the latest pocket", new PachinkoReels().count(11), -1);
        check.due("a touched pin", new PachinkoReels().touched(0), -1);
        check.due("a bent pin", new PachinkoReels().bent(0), -1);
        check.due("launches until open", new PachinkoReels().untilOpen(0), -1);
    }

    @Says("An object is used for at most 512 calls after it has been made")
    static void the512thCallIsAnswered(Check check) {
        PachinkoReels reels = new PachinkoReels();
        for (int call = 1; call <= 510; call++) {
            check.due("hand behind call " + call, reels.buy(99), 99L * call);
        }
        check.due("call 511", reels.count(1), 99 * 510);
        check.due("call 512", reels.undo(), 5);
    }

    @Says("An object is used for at most 512 calls after it has been made")
    static void the512thCallIsAnsweredBehindManyLaunches(Check check) {
        PachinkoReels reels = Lay.channels(3);
        reels.pocket(3, 0, 15);
        reels.buy(1);
        for (int call = 11; call <= 511; call++) {
            check.due("paid in call " + call, reels.play(3, 30), 450);
        }
        check.due("call 512", reels.count(3), 501 * 450);
    }

    @Says("An object is used for at most 512 calls after it has been made")
    static void the512thCallIsAnsweredBehindManyTexts(Check check) {
        PachinkoReels reels = new PachinkoReels();
        for (int text = 0; text < 255; text++) {
            reels.append('!');
            reels.clearBuffer();
        }
        check.due("call 511", reels.append('!'), 1);
        check.due("call 512", reels.firstError(), 0);
    }
}
