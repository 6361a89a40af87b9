/** Promise 24: walked. */
public final class Promise24WalkedTest {
    public static void main(String[] args) {
        Sentences.run(Promise24WalkedTest.class);
    }

    private static Ways counted(Check check) {
        return new Ways(check, (reels, column, pocket) -> reels.walked(column, pocket));
    }

    @Says("`column`: 0 to 6")
    static void theLeastColumnIs0AndTheGreatestIs6(Check check) {
        counted(check).fromTheColumns0And6();
    }

    @Says("`pocket`: 0 to 6")
    static void theLeastPocketIs0AndTheGreatestIs6(Check check) {
        counted(check).overBentPinsThereIsOne();
    }

    @Says("Throws `IndexOutOfBoundsException` if there is no such column or pocket")
    static void aColumnOutside0To6IsRefused(Check check) {
        counted(check).aColumnOutside0To6IsRefused();
    }

    @Says("Throws `IndexOutOfBoundsException` if there is no such column or pocket")
    static void aPocketOutside0To6IsRefused(Check check) {
        counted(check).aPocketOutside0To6IsRefused();
    }

    @Says("Counts the same by going all ways.")
    static void overStraightPinsThereAre256(Check check) {
        counted(check).overStraightPinsThereAre256();
    }

    @Says("Counts the same by going all ways.")
    static void atAStraightPinInTheColumn0OneOfTwoStays(Check check) {
        counted(check).atAStraightPinInTheColumn0OneOfTwoStays();
    }

    @Says("Counts the same by going all ways.")
    static void atAStraightPinInTheColumn6OneOfTwoStays(Check check) {
        counted(check).atAStraightPinInTheColumn6OneOfTwoStays();
    }

    @Says("Returns in how many ways.")
    static void toAPocketThatIsNotReachedThereAreNone(Check check) {
        counted(check).toAPocketThatIsNotReachedThereAreNone();
    }

    @Says("Returns in how many ways.")
    static void aShutPocketIsReachedAsAnOpenOne(Check check) {
        counted(check).aShutPocketIsReachedAsAnOpenOne();
    }

    @Says("If that is not 0 to 6, it stays in the column c.")
    static void atABentPinAtTheEdgeTheOneWayStays(Check check) {
        counted(check).atABentPinAtTheEdgeTheOneWayStays();
    }

    @Says("nothing is changed")
    static void nothingIsChanged(Check check) {
        counted(check).nothingIsChanged();
    }
}
