/** Promise 5: set. */
public final class Promise05SetTest {
    public static void main(String[] args) {
        Sentences.run(Promise05SetTest.class);
    }

    @Says("0: balls, 1 to 10, at first 6; 1: spins of a streak, 0 to 20, at first 8.")
    static void theLeastOfSetting0Is1(Check check) {
        check.due("held for", Lay.held(1, 0).count(9), 1);
    }

    @Says("0: balls, 1 to 10, at first 6; 1: spins of a streak, 0 to 20, at first 8.")
    static void theGreatestOfSetting0Is10(Check check) {
        check.due("held for", Lay.held(10, 0).count(9), 10);
    }

    @Says("0: balls, 1 to 10, at first 6; 1: spins of a streak, 0 to 20, at first 8.")
    static void theLeastOfSetting1Is0(Check check) {
        check.due("spins in the streak", Lay.held(6, 0).count(10), 0);
    }

    @Says("0: balls, 1 to 10, at first 6; 1: spins of a streak, 0 to 20, at first 8.")
    static void theGreatestOfSetting1Is20(Check check) {
        check.due("spins in the streak", Lay.held(6, 20).count(10), 20);
    }

    @Says("`setting`: 0 or 1")
    static void eachSettingIsOneOfItsOwn(Check check) {
        PachinkoReels reels = new PachinkoReels();
        reels.set(0, 3);
        check.due("setting 0", reels.count(14), 3);
        check.due("setting 1 behind it", reels.count(15), 8);
        reels.set(1, 4);
        check.due("setting 0 behind it", reels.count(14), 3);
        check.due("setting 1", reels.count(15), 4);
    }

    @Says("`value`: the new value")
    static void eachValueInRangeIsTaken(Check check) {
        for (int value = 1; value <= 10; value++) {
            PachinkoReels reels = new PachinkoReels();
            reels.set(0, value);
            check.due("setting 0", reels.count(14), value);
        }
        for (int value = 0; value <= 20; value++) {
            PachinkoReels reels = new PachinkoReels();
            reels.set(1, value);
            check.due("setting 1", reels.count(15), value);
        }
    }

    @Says("Throws `IndexOutOfBoundsException` if there is no such setting")
    static void aSettingOutside0And1IsRefused(Check check) {
        check.refusedOutside(0, 1, Check.INDEX, (reels, setting) -> reels.set(setting, 1));
    }

    @Says("Throws `IllegalArgumentException` if value is out of range")
    static void aValueOfSetting0Outside1To10IsRefused(Check check) {
        check.refusedOutside(1, 10, Check.ARGUMENT, (reels, value) -> reels.set(0, value));
        check.refused("20, which setting 1 takes", Lay::busy, Check.ARGUMENT, reels -> reels.set(0, 20));
    }

    @Says("Throws `IllegalArgumentException` if value is out of range")
    static void aValueOfSetting1Outside0To20IsRefused(Check check) {
        check.refusedOutside(0, 20, Check.ARGUMENT, (reels, value) -> reels.set(1, value));
    }

    @Says("If several exceptions apply, the one that is named first in the throws clause is thrown.")
    static void noSuchSettingAndValueOutOfRangeIsNoSuchSetting(Check check) {
        check.refusedOutside(0, 1, Check.INDEX, (reels, setting) -> reels.set(setting, -1));
        check.refusedOutside(0, 1, Check.INDEX, (reels, setting) -> reels.set(setting, 21));
    }

    @Says("Returns the previous value.")
    static void returnsThePreviousValue(Check check) {
        PachinkoReels reels = new PachinkoReels();
        check.due("0: the first", reels.set(0, 10), 6);
        check.due("0: the greatest", reels.set(0, 1), 10);
        check.due("0: the least", reels.set(0, 1), 1);
        check.due("0: the same", reels.set(0, 6), 1);
        check.due("1: the first", reels.set(1, 20), 8);
        check.due("1: the greatest", reels.set(1, 0), 20);
        check.due("1: the least", reels.set(1, 0), 0);
        check.due("1: the same", reels.set(1, 8), 0);
    }

    @Says("Changes a setting.")
    static void whatIsHeldAndTheStreakStay(Check check) {
        PachinkoReels reels = Lay.held(10, 20);
        reels.set(0, 1);
        reels.set(1, 0);
        check.due("held for", reels.count(9), 10);
        check.due("spins in the streak", reels.count(10), 20);
    }

    @Says("Undoable.")
    static void undoBringsTheSettingBack(Check check) {
        check.undoable(reels -> reels.set(0, 1));
        check.undoable(reels -> reels.set(0, 10));
        check.undoable(reels -> reels.set(1, 0));
        check.undoable(reels -> reels.set(1, 20));
    }

    @Says("(also if it changes nothing)")
    static void theSameValueIsSavedToo(Check check) {
        PachinkoReels reels = new PachinkoReels();
        reels.set(0, 6);
        reels.set(1, 8);
        check.due("saved", reels.count(17), 2);
    }
}
