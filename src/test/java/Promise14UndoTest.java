/** Promise 14: undo, and the states that are saved for it. */
public final class Promise14UndoTest {
    public static void main(String[] args) {
        Sentences.run(Promise14UndoTest.class);
    }

    @Says("Throws `IllegalStateException` if there is none")
    static void withoutASavedStateItIsRefused(Check check) {
        check.refused("new", PachinkoReels::new, Check.STATE, reels -> reels.undo());
        check.refused("with a text and a snapshot", Promise14UndoTest::keptAndWritten, Check.STATE, reels -> reels.undo());
    }

    private static PachinkoReels keptAndWritten() {
        PachinkoReels reels = Lay.written("$1;l0");
        reels.keep();
        return reels;
    }

    @Says("Throws `IllegalStateException` if there is none")
    static void behindTheLastSavedStateItIsRefused(Check check) {
        check.refused("one", () -> undone(1, 1), Check.STATE, reels -> reels.undo());
        check.refused("six", () -> undone(6, 6), Check.STATE, reels -> reels.undo());
        check.refused("six of seven", () -> undone(7, 6), Check.STATE, reels -> reels.undo());
    }

    /** So many calls that are saved, 100 being x behind the first of them, and so many undone. */
    private static PachinkoReels undone(int calls, int undone) {
        PachinkoReels reels = new PachinkoReels();
        for (int call = 0; call < calls; call++) {
            reels.shuffle(100 + call);
        }
        for (int undo = 0; undo < undone; undo++) {
            reels.undo();
        }
        return reels;
    }

    @Says("Returns how many saved states are left.")
    static void returnsFrom5To0(Check check) {
        PachinkoReels reels = undone(6, 0);
        for (int left = 5; left >= 0; left--) {
            check.due("left", reels.undo(), left);
            check.due("saved", reels.count(17), left);
        }
    }

    @Says("Restores the latest saved state, and drops it.")
    static void theLatestComesFirstAndIsDropped(Check check) {
        PachinkoReels reels = undone(3, 0);
        int[] before = {101, 100, 1};
        for (int x : before) {
            reels.undo();
            check.due("x", reels.count(13), x);
        }
    }

    @Says("Restores the latest saved state, and drops it.")
    static void aNewStateIsSavedInPlaceOfTheDroppedOne(Check check) {
        PachinkoReels reels = undone(3, 2);
        reels.shuffle(500);
        check.due("saved", reels.count(17), 2);
        reels.undo();
        check.due("x", reels.count(13), 100);
        reels.undo();
        check.due("x, then", reels.count(13), 1);
    }

    @Says("At most 6 states are saved; the oldest one is dropped first.")
    static void sixStatesAreSaved(Check check) {
        PachinkoReels reels = undone(6, 0);
        check.due("saved", reels.count(17), 6);
        for (int undo = 0; undo < 6; undo++) {
            reels.undo();
        }
        check.due("x of the new object", reels.count(13), 1);
    }

    @Says("At most 6 states are saved; the oldest one is dropped first.")
    static void forTheSeventhTheOldestIsDropped(Check check) {
        PachinkoReels reels = undone(7, 0);
        check.due("saved", reels.count(17), 6);
        for (int undo = 0; undo < 6; undo++) {
            reels.undo();
        }
        check.due("x behind the first call", reels.count(13), 100);
        check.due("no more", Check.answerOf(reels::undo), "throws." + Check.STATE);
    }

    @Says("At most 6 states are saved; the oldest one is dropped first.")
    static void ofManyTheLatestSixStay(Check check) {
        for (int calls = 6; calls <= 20; calls++) {
            PachinkoReels reels = undone(calls, 0);
            for (int undo = 1; undo <= 6; undo++) {
                check.due("left", reels.undo(), 6 - undo);
                int behind = calls - undo;
                check.due("x", reels.count(13), behind == 0 ? 1 : 99 + behind);
            }
        }
    }

    @Says("At most 6 states are saved; the oldest one is dropped first.")
    static void theyAreSavedAnewBehindUndosAtAnyPlace(Check check) {
        for (int calls = 1; calls <= 13; calls++) {
            PachinkoReels reels = undone(calls, Math.min(4, calls));
            int left = reels.count(17);
            int x = reels.count(13);
            for (int call = 0; call < 3; call++) {
                reels.shuffle(700 + call);
            }
            check.due("saved", reels.count(17), Math.min(6, left + 3));
            reels.undo();
            reels.undo();
            reels.undo();
            check.due("x", reels.count(13), x);
        }
    }

    @Says("Each method that is marked \"undoable\" and does not throw an exception saves the state from before it")
    static void eachMarkedMethodSavesOneState(Check check) {
        PachinkoReels reels = Lay.channels(3);
        while (reels.count(17) > 0) {
            reels.undo();
        }
        reels.keep();
        dueSaves(check, reels, 1, () -> reels.bend(0, 0, 1));
        dueSaves(check, reels, 2, () -> reels.pocket(0, 2, 1));
        dueSaves(check, reels, 3, () -> reels.start(1));
        dueSaves(check, reels, 4, () -> reels.set(0, 1));
        dueSaves(check, reels, 5, () -> reels.shuffle(9));
        dueSaves(check, reels, 6, () -> reels.buy(9));
        reels.undo();
        reels.undo();
        dueSaves(check, reels, 5, () -> reels.buy(9));
        dueSaves(check, reels, 6, () -> reels.launch(3));
        reels.undo();
        reels.undo();
        dueSaves(check, reels, 5, () -> reels.play(3, 2));
        dueSaves(check, reels, 6, () -> reels.restore());
        reels.undo();
        Lay.write(reels, "$1;$2");
        dueSaves(check, reels, 6, () -> reels.work());
    }

    private static void dueSaves(Check check, PachinkoReels reels, int saved, Check.Call call) {
        call.answer();
        check.due("saved", reels.count(17), saved);
    }

    @Says("Each method that is marked \"undoable\" and does not throw an exception saves the state from before it")
    static void aMarkedMethodThatThrowsSavesNone(Check check) {
        PachinkoReels reels = new PachinkoReels();
        refuseAll(check, reels);
        check.due("launch without a ball", Check.answerOf(() -> reels.launch(0)), "throws." + Check.STATE);
        check.due("restore without a snapshot", Check.answerOf(() -> reels.restore()), "throws." + Check.STATE);
        check.due("saved", reels.count(17), 0);
        check.due("undo without a saved state", Check.answerOf(() -> reels.undo()), "throws." + Check.STATE);
        check.due("digest", reels.digest(), new PachinkoReels().digest());
    }

    @Says("A call that throws an exception changes nothing.")
    static void manyCallsThatThrowChangeNothing(Check check) {
        PachinkoReels reels = Lay.busy();
        refuseAll(check, reels);
        check.dueSame("busy", Told.all(reels), Told.all(Lay.busy()));
        PachinkoReels full = Lay.full();
        refuseAll(check, full);
        check.due("append to a full buffer", Check.answerOf(() -> full.append('l')), "throws." + Check.STATE);
        check.dueSame("full", Told.all(full), Told.all(Lay.full()));
    }

    /** Every call that is refused in any state, and work with a buffer that is not complete. */
    private static void refuseAll(Check check, PachinkoReels reels) {
        Check.Call[] noSuchThing = {
            () -> reels.bend(8, 0, 0), () -> reels.bend(0, 7, 0), () -> reels.pocket(7, 0, 0), () -> reels.start(7),
            () -> reels.set(2, 1), () -> reels.launch(7), () -> reels.play(7, 1), () -> reels.pin(8, 0),
            () -> reels.pocketOf(7, 0), () -> reels.reel(3), () -> reels.ways(7, 0), () -> reels.walked(0, 7),
            () -> reels.ifLaunched(7, 0), () -> reels.untilOpen(7),
        };
        for (Check.Call call : noSuchThing) {
            check.due("no such thing", Check.answerOf(call), "throws." + Check.INDEX);
        }
        Check.Call[] outOfRange = {
            () -> reels.bend(0, 0, 2), () -> reels.pocket(0, 3, 0), () -> reels.pocket(0, 0, 16), () -> reels.set(0, 0),
            () -> reels.set(1, 21), () -> reels.shuffle(-1), () -> reels.buy(0), () -> reels.buy(100),
            () -> reels.play(0, 0), () -> reels.play(0, 31), () -> reels.append(32), () -> reels.append(127),
            () -> reels.work(), () -> reels.bent(-1), () -> reels.touched(8), () -> reels.pocketOf(0, 5),
            () -> reels.count(18), () -> reels.ifLaunched(0, 4),
        };
        for (Check.Call call : outOfRange) {
            check.due("out of range", Check.answerOf(call), "throws." + Check.ARGUMENT);
        }
    }

    @Says("Each method that is marked \"undoable\" and does not throw an exception saves the state from before it")
    static void aMethodThatIsNotMarkedSavesNone(Check check) {
        PachinkoReels reels = Lay.written("$1");
        reels.keep();
        reels.firstError();
        reels.clearBuffer();
        reels.ifLaunched(3, 0);
        reels.untilOpen(3);
        reels.bestColumn();
        reels.digest();
        check.due("saved", reels.count(17), 0);
        check.due("undo", Check.answerOf(reels::undo), "throws." + Check.STATE);
    }

    @Says("(also if it changes nothing)")
    static void aMarkedMethodThatChangesNothingSavesOneToo(Check check) {
        PachinkoReels reels = new PachinkoReels();
        reels.bend(0, 0, 0);
        reels.pocket(0, 0, 0);
        reels.start(3);
        reels.set(0, 6);
        reels.shuffle(1);
        reels.play(0, 1);
        check.due("saved", reels.count(17), 6);
        for (int left = 5; left >= 0; left--) {
            check.due("left", reels.undo(), left);
        }
        check.due("digest", reels.digest(), new PachinkoReels().digest());
    }

    @Says("all, also x and what is counted so far")
    static void eachPartOfTheStateComesBack(Check check) {
        PachinkoReels reels = Lay.busy();
        Lay.write(reels, "9;l1x9;l2x9;b00|;b55<;$9");
        check.due("no error", reels.firstError(), 30);
        reels.work();
        reels.undo();
        check.dueSame("state", Told.state(reels), Told.state(Lay.busy()));
    }

    @Says("all, also x and what is counted so far")
    static void all56BentPinsAndThePocket6ComeBack(Check check) {
        check.undoable(Lay::lastOfAll, reels -> reels.bend(0, 0, 0));
        // the first of the 56 becomes the last
        check.undoable(Lay::lastOfAll, reels -> Lay.write(reels, "b76|;b76>").work());
        check.undoable(Lay::lastOfAll, reels -> reels.launch(0));
        check.undoable(Lay::lastOfAll, reels -> reels.play(0, 2));
        check.undoable(Lay::lastOfAll, reels -> reels.pocket(6, 0, 1));
    }

    @Says("all, also x and what is counted so far")
    static void behindTheFirstLaunchThereIsNoLatestBallAgain(Check check) {
        PachinkoReels reels = new PachinkoReels();
        reels.buy(1);
        reels.launch(3);
        reels.undo();
        check.due("the latest pocket", reels.count(11), -1);
        check.due("touched", reels.touched(0), -1);
        check.due("payback", reels.payback(), 0.0);
        check.due("x", reels.count(13), 1);
        check.due("launches", reels.count(2), 0);
    }

    @Says("but the buffer, the saved states and the snapshot")
    static void theBufferStaysAsItIs(Check check) {
        PachinkoReels reels = Lay.written("l0");
        reels.buy(1);
        Lay.write(reels, "x1");
        reels.undo();
        check.due("length", reels.clearBuffer(), 4);
        reels.buy(1);
        Lay.write(reels, "$");
        reels.buy(1);
        reels.clearBuffer();
        reels.undo();
        check.due("cleared stays cleared", reels.clearBuffer(), 0);
    }

    @Says("but the buffer, the saved states and the snapshot")
    static void theSnapshotStaysAsItIs(Check check) {
        PachinkoReels reels = new PachinkoReels();
        reels.buy(5);
        reels.keep();
        reels.undo();
        check.due("hand", reels.count(0), 0);
        check.due("the snapshot from behind the undone call", reels.restore(), 5);
        reels.buy(1);
        reels.keep();
        reels.buy(1);
        reels.undo();
        check.due("the later snapshot", reels.restore(), 6);
    }
}
