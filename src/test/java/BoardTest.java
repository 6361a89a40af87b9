/** Promises 1 to 6, 17 and 18: a new object, and changes of the board. */
public final class BoardTest {
    private static final Check CHECK = new Check();

    public static void main(String[] args) {
        newObject();
        bends();
        bentOrder();
        pockets();
        tulipsThatStay();
        starts();
        settings();
        shuffles();
        CHECK.end();
    }

    private static void newObject() {
        PachinkoReels reels = new PachinkoReels();
        long[] counts = {0, 0, 0, 0, 0, 0, 0, 0, 0, 0, 0, -1, 3, 1, 6, 8, 0, 0};
        for (int what = 0; what < counts.length; what++) {
            CHECK.due("1: count " + what, reels.count(what), counts[what]);
        }
        int[] kinds = {0, 2, 1, 0, 1, 2, 0};
        int[] pays = {0, 3, 10, 2, 10, 3, 0};
        for (int pocket = 0; pocket < 7; pocket++) {
            CHECK.due("1: kind", reels.pocketOf(pocket, 0), kinds[pocket]);
            CHECK.due("1: pay", reels.pocketOf(pocket, 1), pays[pocket]);
            CHECK.due("1: open", reels.pocketOf(pocket, 2), kinds[pocket] == 0 ? 1 : 0);
            CHECK.due("1: came", reels.pocketOf(pocket, 3), 0);
            CHECK.due("1: paid", reels.pocketOf(pocket, 4), 0);
        }
        for (int row = 0; row < 8; row++) {
            CHECK.due("1: touched", reels.touched(row), PachinkoReels.NONE);
            for (int column = 0; column < 7; column++) {
                CHECK.due("1: pin", reels.pin(row, column), 1);
            }
        }
        for (int reel = 0; reel < 3; reel++) {
            CHECK.due("1: reel", reels.reel(reel), reel);
        }
        CHECK.due("1: empty buffer", reels.clearBuffer(), 0);
        CHECK.throwing("1: no snapshot", reels, Check.STATE, () -> reels.restore());
        CHECK.throwing("1: nothing to undo", reels, Check.STATE, () -> reels.undo());
    }

    private static void bends() {
        PachinkoReels reels = new PachinkoReels();
        CHECK.due("2: straight to left", reels.bend(7, 6, -1), 1);
        CHECK.due("17: left", reels.pin(7, 6), 0);
        CHECK.due("2: left to right", reels.bend(7, 6, 1), 0);
        CHECK.due("17: right", reels.pin(7, 6), 2);
        CHECK.due("2: right to straight", reels.bend(7, 6, 0), 2);
        CHECK.due("17: straight", reels.pin(7, 6), 1);
        CHECK.due("2: straight to straight", reels.bend(0, 0, 0), 1);
        CHECK.due("2: each is saved", reels.count(17), 4);
        int[][] noPins = {{-1, 0}, {8, 0}, {0, -1}, {0, 7}, {Integer.MIN_VALUE, 0}, {0, Integer.MAX_VALUE}};
        for (int[] pin : noPins) {
            CHECK.throwing("2: no such pin", reels, Check.INDEX, () -> reels.bend(pin[0], pin[1], 0));
            CHECK.throwing("2: pin named first", reels, Check.INDEX, () -> reels.bend(pin[0], pin[1], 2));
            CHECK.throwing("17: no such pin", reels, Check.INDEX, () -> reels.pin(pin[0], pin[1]));
        }
        for (int to : new int[] {-2, 2, Integer.MIN_VALUE, Integer.MAX_VALUE}) {
            CHECK.throwing("2: to " + to, reels, Check.ARGUMENT, () -> reels.bend(0, 0, to));
        }
    }

    private static void bentOrder() {
        PachinkoReels reels = new PachinkoReels();
        CHECK.due("18: none", reels.bent(0), -1);
        reels.bend(1, 2, 1);
        reels.bend(7, 6, -1);
        reels.bend(0, 0, 1);
        dueBent(reels, 9, 55, 0);
        reels.bend(1, 2, 1);
        reels.bend(7, 6, 1);
        dueBent(reels, 9, 55, 0);
        reels.bend(1, 2, 0);
        dueBent(reels, 55, 0);
        reels.bend(1, 2, 0);
        dueBent(reels, 55, 0);
        reels.bend(1, 2, -1);
        dueBent(reels, 55, 0, 9);
        reels.bend(0, 0, 0);
        dueBent(reels, 55, 9);
        CHECK.due("18: far place", reels.bent(Integer.MAX_VALUE), -1);
        CHECK.throwing("18: below 0", reels, Check.ARGUMENT, () -> reels.bent(-1));
        CHECK.throwing("18: far below 0", reels, Check.ARGUMENT, () -> reels.bent(Integer.MIN_VALUE));
        allBent();
    }

    private static void allBent() {
        PachinkoReels reels = new PachinkoReels();
        int[] pins = new int[56];
        for (int i = 0; i < 56; i++) {
            pins[i] = 55 - i;
            reels.bend(pins[i] / 7, pins[i] % 7, i % 2 == 0 ? -1 : 1);
        }
        dueBent(reels, pins);
        CHECK.due("18: behind all", reels.bent(56), -1);
    }

    private static void dueBent(PachinkoReels reels, int... pins) {
        CHECK.due("22: bent pins", reels.count(16), pins.length);
        for (int place = 0; place < pins.length; place++) {
            CHECK.due("18: place " + place, reels.bent(place), pins[place]);
        }
        CHECK.due("18: behind the last", reels.bent(pins.length), -1);
    }

    private static void pockets() {
        PachinkoReels reels = new PachinkoReels();
        CHECK.due("3: previous pay", reels.pocket(2, 0, 15), 10);
        CHECK.due("3: previous pay again", reels.pocket(2, 1, 0), 15);
        CHECK.due("20: kind", reels.pocketOf(2, 0), 1);
        CHECK.due("20: pay", reels.pocketOf(2, 1), 0);
        CHECK.due("3: other pockets stay", reels.pocketOf(4, 1), 10);
        CHECK.due("3: saved", reels.count(17), 2);
        reels.pocket(0, 2, 5);
        CHECK.due("3: a new tulip is shut", reels.pocketOf(0, 2), 0);
        reels.pocket(1, 0, 5);
        CHECK.due("3: plain is open", reels.pocketOf(1, 2), 1);
        for (int pocket : new int[] {-1, 7, Integer.MIN_VALUE, Integer.MAX_VALUE}) {
            CHECK.throwing("3: no such pocket", reels, Check.INDEX, () -> reels.pocket(pocket, 0, 0));
            CHECK.throwing("3: pocket first", reels, Check.INDEX, () -> reels.pocket(pocket, 3, 16));
        }
        for (int kind : new int[] {-1, 3, Integer.MIN_VALUE, Integer.MAX_VALUE}) {
            CHECK.throwing("3: kind", reels, Check.ARGUMENT, () -> reels.pocket(0, kind, 0));
        }
        for (int pay : new int[] {-1, 16, Integer.MIN_VALUE, Integer.MAX_VALUE}) {
            CHECK.throwing("3: pay", reels, Check.ARGUMENT, () -> reels.pocket(0, 0, pay));
        }
    }

    private static void tulipsThatStay() {
        PachinkoReels reels = Lay.channels(1);
        reels.buy(5);
        reels.launch(1);
        CHECK.due("3: the ball opened it", reels.pocketOf(1, 2), 1);
        reels.pocket(1, 2, 7);
        CHECK.due("3: a tulip stays open", reels.pocketOf(1, 2), 1);
        reels.pocket(1, 1, 7);
        CHECK.due("3: a reel pocket is shut", reels.pocketOf(1, 2), 0);
        reels.pocket(1, 2, 7);
        CHECK.due("3: shut as it becomes a tulip", reels.pocketOf(1, 2), 0);
        reels.launch(1);
        CHECK.due("3: opened anew", reels.pocketOf(1, 2), 1);
        reels.pocket(1, 0, 7);
        reels.pocket(1, 2, 7);
        CHECK.due("3: shut though it was open as a tulip", reels.pocketOf(1, 2), 0);
        reels.pocket(1, 2, 1);
        CHECK.due("3: a tulip stays shut", reels.pocketOf(1, 2), 0);
        CHECK.due("3: what came stays", reels.pocketOf(1, 3), 2);
    }

    private static void starts() {
        PachinkoReels reels = new PachinkoReels();
        CHECK.due("4: previous", reels.start(6), 3);
        CHECK.due("4: previous again", reels.start(0), 6);
        CHECK.due("4: the same", reels.start(0), 0);
        CHECK.due("22: start pocket", reels.count(12), 0);
        CHECK.due("4: saved", reels.count(17), 3);
        for (int pocket : new int[] {-1, 7, Integer.MIN_VALUE, Integer.MAX_VALUE}) {
            CHECK.throwing("4: no such pocket", reels, Check.INDEX, () -> reels.start(pocket));
        }
        Lay.channel(reels, 5);
        reels.buy(2);
        reels.start(5);
        reels.launch(5);
        CHECK.due("4: a ball at the new one lets a spin wait", reels.count(6), 1);
    }

    private static void settings() {
        PachinkoReels reels = new PachinkoReels();
        CHECK.due("5: previous 0", reels.set(0, 10), 6);
        CHECK.due("5: previous 0 again", reels.set(0, 1), 10);
        CHECK.due("5: previous 1", reels.set(1, 20), 8);
        CHECK.due("5: previous 1 again", reels.set(1, 0), 20);
        CHECK.due("22: setting 0", reels.count(14), 1);
        CHECK.due("22: setting 1", reels.count(15), 0);
        CHECK.due("5: saved", reels.count(17), 4);
        for (int setting : new int[] {-1, 2, Integer.MIN_VALUE, Integer.MAX_VALUE}) {
            CHECK.throwing("5: no such setting", reels, Check.INDEX, () -> reels.set(setting, 1));
            CHECK.throwing("5: setting first", reels, Check.INDEX, () -> reels.set(setting, 99));
        }
        for (int value : new int[] {0, 11, -1, Integer.MIN_VALUE, Integer.MAX_VALUE}) {
            CHECK.throwing("5: setting 0", reels, Check.ARGUMENT, () -> reels.set(0, value));
        }
        for (int value : new int[] {-1, 21, Integer.MIN_VALUE, Integer.MAX_VALUE}) {
            CHECK.throwing("5: setting 1", reels, Check.ARGUMENT, () -> reels.set(1, value));
        }
    }

    private static void shuffles() {
        PachinkoReels reels = new PachinkoReels();
        CHECK.due("6: previous", reels.shuffle(0), 1);
        CHECK.due("6: previous again", reels.shuffle(2147483647), 0);
        CHECK.due("22: x", reels.count(13), 2147483647);
        CHECK.due("6: saved", reels.count(17), 2);
        CHECK.throwing("6: below 0", reels, Check.ARGUMENT, () -> reels.shuffle(-1));
        CHECK.throwing("6: far below 0", reels, Check.ARGUMENT, () -> reels.shuffle(Integer.MIN_VALUE));
        reels.buy(1);
        reels.launch(3);
        long x = 2147483647L;
        for (int row = 0; row < 8; row++) {
            x = Lay.nextX(x);
        }
        CHECK.due("6: eight draws from the new x", reels.count(13), x);
    }
}
