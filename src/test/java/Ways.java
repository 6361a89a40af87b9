/** What is due of promise 23 and of promise 24 alike: both count the same ways, each in its own way. */
final class Ways {
    interface Counter {
        long count(PachinkoReels reels, int column, int pocket);
    }

    private final Check check;
    private final Counter counter;

    Ways(Check check, Counter counter) {
        this.check = check;
        this.counter = counter;
    }

    private void due(PachinkoReels reels, int column, long... ways) {
        for (int pocket = 0; pocket < 7; pocket++) {
            check.due("from " + column + " to " + pocket, counter.count(reels, column, pocket), ways[pocket]);
        }
    }

    void fromTheColumns0And6() {
        due(new PachinkoReels(), 0, 70, 56, 56, 28, 28, 9, 9);
        due(new PachinkoReels(), 6, 9, 9, 28, 28, 56, 56, 70);
    }

    /** Each of the 256 ways is gone here by its own number, a bit a row. */
    void overStraightPinsThereAre256() {
        for (int column = 0; column < 7; column++) {
            long[] ends = new long[7];
            for (int way = 0; way < 256; way++) {
                ends[endOf(column, way)]++;
            }
            due(new PachinkoReels(), column, ends);
        }
    }

    private static int endOf(int column, int way) {
        int at = column;
        for (int row = 0; row < 8; row++) {
            int next = at + ((way >> row & 1) == 0 ? -1 : 1);
            at = next < 0 || next > 6 ? at : next;
        }
        return at;
    }

    void overBentPinsThereIsOne() {
        for (int column = 0; column < 7; column++) {
            long[] ends = new long[7];
            ends[column] = 1;
            due(Lay.channels(column), column, ends);
        }
    }

    void toAPocketThatIsNotReachedThereAreNone() {
        PachinkoReels reels = Lay.channels(3);
        for (int pocket = 0; pocket < 7; pocket++) {
            if (pocket != 3) {
                check.due("to " + pocket, counter.count(reels, 3, pocket), 0);
            }
        }
    }

    /** All pins of the column are bent but one, at which one way stays and one leaves. */
    void atAStraightPinInTheColumn0OneOfTwoStays() {
        for (int row = 0; row < 8; row++) {
            PachinkoReels reels = new PachinkoReels();
            bendAll(reels, -1);
            reels.bend(row, 0, 0);
            // the one that leaves comes back at the next pin, but for the row 7
            due(reels, 0, row < 7 ? 2 : 1, row < 7 ? 0 : 1, 0, 0, 0, 0, 0);
        }
    }

    void atAStraightPinInTheColumn6OneOfTwoStays() {
        for (int row = 0; row < 8; row++) {
            PachinkoReels reels = new PachinkoReels();
            bendAll(reels, 1);
            reels.bend(row, 6, 0);
            due(reels, 6, 0, 0, 0, 0, 0, row < 7 ? 0 : 1, row < 7 ? 2 : 1);
        }
    }

    void atABentPinAtTheEdgeTheOneWayStays() {
        PachinkoReels left = new PachinkoReels();
        bendAll(left, -1);
        due(left, 0, 1, 0, 0, 0, 0, 0, 0);
        PachinkoReels right = new PachinkoReels();
        bendAll(right, 1);
        due(right, 6, 0, 0, 0, 0, 0, 0, 1);
    }

    private static void bendAll(PachinkoReels reels, int to) {
        for (int pin = 0; pin < 56; pin++) {
            reels.bend(pin / 7, pin % 7, to);
        }
    }

    void aShutPocketIsReachedAsAnOpenOne() {
        PachinkoReels reels = new PachinkoReels();
        long shut = counter.count(reels, 3, 1);
        reels.pocket(1, 0, 0);
        check.due("open", counter.count(reels, 3, 1), shut);
        check.due("ways", shut, 56);
    }

    void aColumnOutside0To6IsRefused() {
        check.refusedOutside(0, 6, Check.INDEX, (reels, column) -> counter.count(reels, column, 0));
        check.refusedOutside(0, 6, Check.INDEX, (reels, column) -> counter.count(reels, column, 6));
    }

    void aPocketOutside0To6IsRefused() {
        check.refusedOutside(0, 6, Check.INDEX, (reels, pocket) -> counter.count(reels, 0, pocket));
        check.refusedOutside(0, 6, Check.INDEX, (reels, pocket) -> counter.count(reels, 6, pocket));
        check.refusedOutside(0, 6, Check.INDEX, (reels, both) -> counter.count(reels, both, both));
    }

    void nothingIsChanged() {
        check.changesNothing(reels -> counter.count(reels, 3, 3));
    }
}
