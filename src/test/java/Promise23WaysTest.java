/** Promise 23: ways. */
public final class Promise23WaysTest {
    public static void main(String[] args) {
        Sentences.run(Promise23WaysTest.class);
    }

    private static Ways counted(Check check) {
        return new Ways(check, (reels, column, pocket) -> reels.ways(column, pocket));
    }

    @Says("`column`: 0 to 6")
    static void theLeastColumnIs0AndTheGreatestIs6(Check check) {
        counted(check).fromTheColumns0And6();
    }

    @Says("`pocket`: 0 to 6")
    static void theLeastPocketIs0AndTheGreatestIs6(Check check) {
        counted(check).overBentPinsThereIsOne();
    }

    @Says("Throws `IndexOutOfBoundsException` if there is no such column or pocket")
    static void aColumnOutside0To6IsRefused(Check check) {
        counted(check).aColumnOutside0To6IsRefused();
    }

    @Says("Throws `IndexOutOfBoundsException` if there is no such column or pocket")
    static void aPocketOutside0To6IsRefused(Check check) {
        counted(check).aPocketOutside0To6IsRefused();
    }

    @Says("Counts the ways from a column to a pocket, row by row.")
    static void overStraightPinsThereAre256(Check check) {
        counted(check).overStraightPinsThereAre256();
    }

    @Says("where a straight pin has two ways on (which can lead to the same column, at the edge one of both stays)")
    static void atAStraightPinInTheColumn0OneOfTwoStays(Check check) {
        counted(check).atAStraightPinInTheColumn0OneOfTwoStays();
    }

    @Says("where a straight pin has two ways on (which can lead to the same column, at the edge one of both stays)")
    static void atAStraightPinInTheColumn6OneOfTwoStays(Check check) {
        counted(check).atAStraightPinInTheColumn6OneOfTwoStays();
    }

    @Says("Returns in how many ways a ball that is launched at the column can come to the pocket")
    static void toAPocketThatIsNotReachedThereAreNone(Check check) {
        counted(check).toAPocketThatIsNotReachedThereAreNone();
    }

    @Says("Returns in how many ways a ball that is launched at the column can come to the pocket")
    static void aShutPocketIsReachedAsAnOpenOne(Check check) {
        counted(check).aShutPocketIsReachedAsAnOpenOne();
    }

    @Says("If that is not 0 to 6, it stays in the column c.")
    static void atABentPinAtTheEdgeTheOneWayStays(Check check) {
        counted(check).atABentPinAtTheEdgeTheOneWayStays();
    }

    @Says("nothing is changed")
    static void nothingIsChanged(Check check) {
        counted(check).nothingIsChanged();
    }
}
