/** Promises 10 to 13: the buffer, its first error, and works as a text. */
public final class TextsTest {
    private static final Check CHECK = new Check();

    public static void main(String[] args) {
        appends();
        clears();
        errors();
        noErrors();
        notComplete();
        works();
        worksThatPay();
        worksOfSixtyCharacters();
        everyNumber();
        CHECK.end();
    }

    private static void appends() {
        PachinkoReels reels = new PachinkoReels();
        CHECK.due("10: least code", reels.append(33), 1);
        CHECK.due("10: greatest code", reels.append(126), 2);
        for (int code : new int[] {32, 127, -1, 0, 255, Integer.MIN_VALUE, Integer.MAX_VALUE}) {
            CHECK.throwing("10: code " + code, reels, Check.ARGUMENT, () -> reels.append(code));
        }
        for (int length = 3; length <= 60; length++) {
            CHECK.due("10: length", reels.append('l'), length);
        }
        CHECK.throwing("10: full", reels, Check.STATE, () -> reels.append('l'));
        CHECK.throwing("10: code first", reels, Check.ARGUMENT, () -> reels.append(127));
        CHECK.due("10: not undoable", reels.count(17), 0);
    }

    private static void clears() {
        PachinkoReels reels = new PachinkoReels();
        CHECK.due("11: empty", reels.clearBuffer(), 0);
        Lay.write(reels, "l0x");
        CHECK.due("11: three", reels.clearBuffer(), 3);
        CHECK.due("11: cleared", reels.clearBuffer(), 0);
        CHECK.due("11: begins anew", reels.append('l'), 1);
        CHECK.due("11: not undoable", reels.count(17), 0);
    }

    private static void errors() {
        String[] texts = {
            "x0", ";0", "0", "L0", "l70", "l;", "lx", "l0;", "l00", "l0X", "l0x0", "l0x;", "l0x31", "l0x32",
            "l0x39", "l0x3x", "l0x40", "l0x90", "l0x100", "l0x200", "l0x300", "l0x1l", "b8", "b;", "b07", "b0;",
            "b00/", "b00;", "b00=", "b00<<", "b00|0", "b00>b", "$0", "$;", "$a", "$100", "$990", "$9x", "$9;;",
            "l0x1;x", "l6x30;b76>;$99;l7", "B00<", "/", "l/", "l0x/", "l0x:", "b/", "b0/", "$/", "$:", "$1/",
            "l0x1/", "l0x1:", "l0x3/", "b00}",
        };
        int[] places = {
            0, 0, 0, 0, 1, 1, 1, 2, 2, 2, 3, 3, 4, 4,
            4, 4, 4, 4, 5, 5, 5, 4, 1, 1, 2, 2,
            3, 3, 3, 4, 4, 4, 1, 1, 1, 3, 3, 2, 3,
            5, 16, 0, 0, 1, 3, 3, 1, 2, 1, 1, 2,
            4, 4, 4, 3,
        };
        CHECK.due("12: the table is whole", texts.length, places.length);
        for (int i = 0; i < texts.length; i++) {
            PachinkoReels reels = Lay.write(new PachinkoReels(), texts[i]);
            CHECK.due("12: " + texts[i], reels.firstError(), places[i]);
            CHECK.due("12: nothing is changed", reels.firstError(), places[i]);
            CHECK.throwing("13: " + texts[i], reels, Check.ARGUMENT, () -> reels.work());
        }
    }

    private static void noErrors() {
        String[] texts = {
            "", "l", "l0", "l6x", "l0x1", "l0x3", "l0x30", "l0x29", "b", "b7", "b76", "b00<", "b00|", "b00>",
            "$", "$1", "$9", "$10", "$99", "$9;", "l0x1;", "b00<;", "l0x1;l0x1;b00|;$9;b", "l0x3;", "l0x4;",
        };
        for (String text : texts) {
            PachinkoReels reels = Lay.write(new PachinkoReels(), text);
            CHECK.due("12: " + text, reels.firstError(), text.length());
        }
        // a text of any length: what goes on behind the buffer's end is no error
        PachinkoReels full = Lay.write(new PachinkoReels(), "$1;".repeat(19) + "l0x");
        CHECK.due("12: a full buffer", full.firstError(), 60);
        PachinkoReels late = Lay.write(new PachinkoReels(), "$1;".repeat(19) + "l0x");
        late.clearBuffer();
        Lay.write(late, "$1;".repeat(19) + "l07");
        CHECK.due("12: the last place", late.firstError(), 59);
    }

    private static void notComplete() {
        String[] texts = {"", "l", "l0", "l0x", "b", "b0", "b00", "$", "$1;", "l0x1;", "b00<;", "$1;l0x1;b00", "$1;x"};
        for (String text : texts) {
            PachinkoReels reels = Lay.write(new PachinkoReels(), text);
            CHECK.throwing("13: " + text, reels, Check.ARGUMENT, () -> reels.work());
            CHECK.due("13: the buffer stays", reels.clearBuffer(), text.length());
        }
    }

    private static void works() {
        PachinkoReels reels = Lay.write(new PachinkoReels(), "$12;b13<;b76>;b13|;$5");
        CHECK.due("13: nothing is paid", reels.work(), 0);
        CHECK.due("13: cleared", reels.clearBuffer(), 0);
        CHECK.due("13: as one call", reels.count(17), 1);
        CHECK.due("13: bought", reels.count(1), 17);
        CHECK.due("13: hand", reels.count(0), 17);
        CHECK.due("13: straight again", reels.pin(1, 3), 1);
        CHECK.due("13: to the right", reels.pin(7, 6), 2);
        CHECK.due("13: bent pins", reels.count(16), 1);
        Lay.write(reels, "b76<");
        reels.work();
        CHECK.due("13: to the left", reels.pin(7, 6), 0);
        Lay.write(reels, "$1");
        reels.undo();
        CHECK.due("13: undone", reels.pin(7, 6), 2);
        CHECK.due("13: undo leaves the buffer", reels.clearBuffer(), 2);
        reels.undo();
        CHECK.due("13: all undone", reels.digest(), new PachinkoReels().digest());
    }

    private static void worksThatPay() {
        PachinkoReels reels = Lay.channels(3, 4);
        reels.pocket(4, 0, 7);
        reels.pocket(3, 0, 0);
        Lay.write(reels, "l4x9;$3;l4x2;l3x30;$1;l4x1");
        CHECK.due("13: paid together", reels.work(), 21);
        CHECK.due("22: launches", reels.count(2), 2 + 15 + 1);
        CHECK.due("22: hand", reels.count(0), 7);
        CHECK.due("20: came to 3", reels.pocketOf(3, 3), 15);
    }

    private static void worksOfSixtyCharacters() {
        String text = "$1;".repeat(18) + "l0x30;";
        PachinkoReels reels = Lay.write(new PachinkoReels(), text.substring(0, 59));
        CHECK.due("13: fifty-nine characters", reels.firstError(), 59);
        reels.work();
        CHECK.due("22: bought", reels.count(1), 18);
        PachinkoReels full = Lay.write(new PachinkoReels(), "$1;".repeat(18) + "b00<;$1".substring(0, 4) + ";$");
        CHECK.due("12: sixty", full.firstError(), 60);
        full.clearBuffer();
        Lay.write(full, "$1;".repeat(19) + "$12");
        CHECK.due("13: sixty characters", full.work(), 0);
        CHECK.due("22: bought by them", full.count(1), 31);
    }

    private static void everyNumber() {
        for (int number = 1; number <= 99; number++) {
            PachinkoReels reels = Lay.write(Lay.channels(6), "$" + number);
            CHECK.due("13: $" + number, reels.work(), 0);
            CHECK.due("13: bought", reels.count(1), number);
            Lay.write(reels, "$99;l6x" + number);
            CHECK.due("12: l6x" + number, reels.firstError(), number <= 30 ? reels.clearBuffer() : 8);
        }
        for (int number = 1; number <= 30; number++) {
            PachinkoReels reels = Lay.write(Lay.channels(6), "$99;l6x" + number);
            reels.work();
            CHECK.due("13: launched " + number, reels.count(2), number);
        }
    }
}
