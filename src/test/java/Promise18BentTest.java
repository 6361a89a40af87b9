/** Promise 18: bent. */
public final class Promise18BentTest {
    public static void main(String[] args) {
        Sentences.run(Promise18BentTest.class);
    }

    private static void dueBent(Check check, PachinkoReels reels, int... pins) {
        check.due("bent pins", reels.count(16), pins.length);
        for (int place = 0; place < pins.length; place++) {
            check.due("place " + place, reels.bent(place), pins[place]);
        }
        check.due("the place behind the last", reels.bent(pins.length), PachinkoReels.NONE);
    }

    @Says("NONE if there are not so many")
    static void withoutABentPinThePlace0IsNone(Check check) {
        check.due("place 0", new PachinkoReels().bent(0), -1);
        PachinkoReels straightAgain = new PachinkoReels();
        straightAgain.bend(7, 6, 1);
        straightAgain.bend(7, 6, 0);
        check.due("place 0 of one straight again", straightAgain.bent(0), -1);
    }

    @Says("NONE if there are not so many")
    static void thePlaceBehindTheLastIsNone(Check check) {
        PachinkoReels reels = new PachinkoReels();
        reels.bend(0, 0, 1);
        check.due("place 0", reels.bent(0), 0);
        check.due("place 1", reels.bent(1), -1);
        reels.bend(7, 6, 1);
        check.due("place 1, with two", reels.bent(1), 55);
        check.due("place 2", reels.bent(2), -1);
    }

    @Says("NONE if there are not so many")
    static void placesFarBehindTheLastAreNone(Check check) {
        PachinkoReels reels = new PachinkoReels();
        reels.bend(0, 0, 1);
        for (int place : new int[] {55, 56, 57, 1000, Integer.MAX_VALUE - 1, Integer.MAX_VALUE}) {
            check.due("place " + place, reels.bent(place), -1);
        }
    }

    @Says("NONE if there are not so many")
    static void ofAll56BentThePlace55IsTheLast(Check check) {
        PachinkoReels reels = new PachinkoReels();
        int[] pins = new int[56];
        for (int i = 0; i < 56; i++) {
            pins[i] = 55 - i;
            reels.bend(pins[i] / 7, pins[i] % 7, i % 2 == 0 ? -1 : 1);
        }
        dueBent(check, reels, pins);
        check.due("place 56", reels.bent(56), -1);
    }

    @Says("NONE if there are not so many")
    static void of56StraightenedAgainNoneIsLeft(Check check) {
        PachinkoReels reels = new PachinkoReels();
        for (int pin = 0; pin < 56; pin++) {
            reels.bend(pin / 7, pin % 7, 1);
        }
        for (int pin = 55; pin >= 0; pin--) {
            reels.bend(pin / 7, pin % 7, 0);
            check.due("the last place", reels.bent(pin), -1);
        }
        dueBent(check, reels);
    }

    @Says("`place`: its place in this order, from 0")
    static void theLeastPlaceIs0(Check check) {
        PachinkoReels reels = new PachinkoReels();
        reels.bend(3, 4, -1);
        check.due("place 0", reels.bent(0), 25);
    }

    @Says("Throws `IllegalArgumentException` if place is below 0")
    static void aPlaceBelow0IsRefused(Check check) {
        for (int place : new int[] {-1, -2, -56, Integer.MIN_VALUE}) {
            check.refused("new, " + place, PachinkoReels::new, Check.ARGUMENT, reels -> reels.bent(place));
            check.refused("busy, " + place, Lay::busy, Check.ARGUMENT, reels -> reels.bent(place));
        }
    }

    @Says("Returns 7 times its row and its column, together")
    static void returnsFrom0To55(Check check) {
        for (int pin = 0; pin < 56; pin++) {
            PachinkoReels reels = new PachinkoReels();
            reels.bend(pin / 7, pin % 7, 1);
            check.due("pin", reels.bent(0), pin);
        }
    }

    @Says("a pin that is bent again, or to the other side, keeps its place")
    static void aPinThatIsBentAgainKeepsItsPlace(Check check) {
        PachinkoReels reels = threeBent();
        reels.bend(1, 2, 1);
        dueBent(check, reels, 9, 55, 0);
        reels.bend(0, 0, 1);
        dueBent(check, reels, 9, 55, 0);
    }

    @Says("a pin that is bent again, or to the other side, keeps its place")
    static void aPinThatIsBentToTheOtherSideKeepsItsPlace(Check check) {
        PachinkoReels reels = threeBent();
        reels.bend(1, 2, -1);
        reels.bend(7, 6, 1);
        dueBent(check, reels, 9, 55, 0);
    }

    @Says("one that was straight in between comes behind all others")
    static void onePinThatWasStraightInBetweenComesLast(Check check) {
        PachinkoReels first = threeBent();
        first.bend(1, 2, 0);
        dueBent(check, first, 55, 0);
        first.bend(1, 2, 1);
        dueBent(check, first, 55, 0, 9);
        PachinkoReels middle = threeBent();
        middle.bend(7, 6, 0);
        middle.bend(7, 6, -1);
        dueBent(check, middle, 9, 0, 55);
        PachinkoReels last = threeBent();
        last.bend(0, 0, 0);
        last.bend(0, 0, -1);
        dueBent(check, last, 9, 55, 0);
    }

    @Says("Returns a bent pin, in the order in which they were bent")
    static void aStraightPinThatIsStraightenedChangesNoPlace(Check check) {
        PachinkoReels reels = threeBent();
        reels.bend(4, 4, 0);
        reels.bend(1, 1, 0);
        dueBent(check, reels, 9, 55, 0);
    }

    @Says("Returns a bent pin, in the order in which they were bent")
    static void theOrderComesBackWithUndoAndRestore(Check check) {
        PachinkoReels reels = threeBent();
        reels.keep();
        reels.bend(1, 2, 0);
        reels.bend(1, 2, 1);
        dueBent(check, reels, 55, 0, 9);
        reels.undo();
        reels.undo();
        dueBent(check, reels, 9, 55, 0);
        reels.bend(7, 6, 0);
        reels.restore();
        dueBent(check, reels, 9, 55, 0);
    }

    @Says("nothing is changed")
    static void nothingIsChanged(Check check) {
        check.changesNothing(reels -> reels.bent(0) + reels.bent(56));
    }

    private static PachinkoReels threeBent() {
        PachinkoReels reels = new PachinkoReels();
        reels.bend(1, 2, 1);
        reels.bend(7, 6, -1);
        reels.bend(0, 0, 1);
        return reels;
    }
}
