/** Promise 12: firstError. */
public final class Promise12FirstErrorTest {
    public static void main(String[] args) {
        Sentences.run(Promise12FirstErrorTest.class);
    }

    /** Behind this text, of all characters just these are no error. */
    private static void dueNext(Check check, String before, String allowed) {
        for (char code = 33; code <= 126; code++) {
            boolean fits = allowed.indexOf(code) >= 0;
            String text = before + code;
            check.due(text, Lay.written(text).firstError(), before.length() + (fits ? 1 : 0));
        }
    }

    @Says("Returns the index of the first character that is a syntax error; the length of the buffer if there is none.")
    static void returns0ForAnEmptyBuffer(Check check) {
        check.due("empty", new PachinkoReels().firstError(), 0);
    }

    @Says("Returns the index of the first character that is a syntax error; the length of the buffer if there is none.")
    static void returns0ForAnErrorInTheFirstCharacter(Check check) {
        check.due("x", Lay.written("x").firstError(), 0);
        check.due("x, then works", Lay.written("x$1").firstError(), 0);
        check.due("sixty", Lay.written("0".repeat(60)).firstError(), 0);
    }

    @Says("Returns the index of the first character that is a syntax error; the length of the buffer if there is none.")
    static void returns59ForAnErrorInTheSixtiethCharacter(Check check) {
        check.due("a column", Lay.written("$1;".repeat(19) + "b07").firstError(), 59);
        check.due("another", Lay.written("$1;".repeat(19) + "l0y").firstError(), 59);
        check.due("behind a number", Lay.written("$1;".repeat(19) + "$9x").firstError(), 59);
    }

    @Says("Returns the index of the first character that is a syntax error; the length of the buffer if there is none.")
    static void returnsTheLengthIfThereIsNoneFrom1To60(Check check) {
        String text = "l0x30;b76>;$99;l6x1;b00|;$1;l3x29;b34<;$10;l5x9;b12>;$45;$6;";
        for (int length = 1; length <= 60; length++) {
            check.due("length " + length, Lay.written(text.substring(0, length)).firstError(), length);
        }
    }

    @Says("Returns the index of the first character that is a syntax error; the length of the buffer if there is none.")
    static void ofTwoErrorsTheFirstIsReturned(Check check) {
        check.due("two", Lay.written("$1;l7x0").firstError(), 4);
        check.due("what follows could stand alone", Lay.written("l0;$1;$2").firstError(), 2);
    }

    @Says("The buffer is read from left to right; a character is a syntax error if no works as a text, of any length, begin with the characters before it and this character.")
    static void aTextThatCouldGoOnIsNoError(Check check) {
        String[] texts = {"l", "l6", "l6x", "l6x3", "b", "b7", "b76", "$", "$9", "$1;", "l0x1;", "b00<;"};
        for (String text : texts) {
            check.due(text, Lay.written(text).firstError(), text.length());
        }
    }

    @Says("a character is a syntax error if no works as a text, of any length, begin with the characters before it and this character")
    static void aFullBufferThatCouldGoOnOnlyBehind60CharactersIsNoError(Check check) {
        check.due("l", Lay.written("$1;".repeat(19) + "$1;").firstError(), 60);
        check.due("l0x", Lay.written("$1;".repeat(19) + "l0x").firstError(), 60);
        check.due("b00", Lay.written("$1;".repeat(19) + "b00").firstError(), 60);
        check.due("$", Lay.written("$99;".repeat(14) + "$1;$").firstError(), 60);
    }

    @Says("Works as a text are one or more parts with \";\" between them")
    static void aPartBeginsWithOneOfThreeCharacters(Check check) {
        dueNext(check, "", "lb$");
        dueNext(check, "$1;", "lb$");
        dueNext(check, "l0x30;", "lb$");
        dueNext(check, "b00<;", "lb$");
    }

    @Says("Works as a text are one or more parts with \";\" between them")
    static void aSemicolonAtTheBeginningOrBehindAnotherIsAnError(Check check) {
        check.due("at the beginning", Lay.written(";$1").firstError(), 0);
        check.due("two", Lay.written("$1;;").firstError(), 3);
        check.due("at the end", Lay.written("$1;").firstError(), 3);
    }

    @Says("\"l\", a column, 0 to 6, \"x\", and a number, 1 to 30")
    static void theColumnOfALaunchIs0To6(Check check) {
        dueNext(check, "l", "0123456");
    }

    @Says("\"l\", a column, 0 to 6, \"x\", and a number, 1 to 30")
    static void anXFollowsTheColumn(Check check) {
        dueNext(check, "l0", "x");
        dueNext(check, "l6", "x");
    }

    @Says("\"l\", a column, 0 to 6, \"x\", and a number, 1 to 30")
    static void theNumberOfLaunchesIsNot0(Check check) {
        dueNext(check, "l0x", "123456789");
        check.due("0", Lay.written("l0x0").firstError(), 3);
    }

    @Says("\"l\", a column, 0 to 6, \"x\", and a number, 1 to 30")
    static void theNumberOfLaunchesIsAtMost30(Check check) {
        dueNext(check, "l0x1", "0123456789;");
        dueNext(check, "l0x2", "0123456789;");
        dueNext(check, "l0x3", "0;");
        for (int digit = 4; digit <= 9; digit++) {
            dueNext(check, "l0x" + digit, ";");
        }
        check.due("30", Lay.written("l0x30").firstError(), 5);
        check.due("31", Lay.written("l0x31").firstError(), 4);
        check.due("40", Lay.written("l0x40").firstError(), 4);
    }

    @Says("\"l\", a column, 0 to 6, \"x\", and a number, 1 to 30")
    static void aNumberOfLaunchesHasNoThirdDigit(Check check) {
        for (int number = 10; number <= 30; number++) {
            dueNext(check, "l0x" + number, ";");
        }
    }

    @Says("\"b\", a row, 0 to 7, a column, 0 to 6, and \"<\", \"|\" or \">\"")
    static void theRowOfABendIs0To7(Check check) {
        dueNext(check, "b", "01234567");
    }

    @Says("\"b\", a row, 0 to 7, a column, 0 to 6, and \"<\", \"|\" or \">\"")
    static void theColumnOfABendIs0To6(Check check) {
        dueNext(check, "b0", "0123456");
        dueNext(check, "b7", "0123456");
    }

    @Says("\"b\", a row, 0 to 7, a column, 0 to 6, and \"<\", \"|\" or \">\"")
    static void oneOfThreeSignsFollowsAPin(Check check) {
        dueNext(check, "b00", "<|>");
        dueNext(check, "b76", "<|>");
    }

    @Says("\"b\", a row, 0 to 7, a column, 0 to 6, and \"<\", \"|\" or \">\"")
    static void behindTheSignThePartEnds(Check check) {
        dueNext(check, "b00<", ";");
        dueNext(check, "b00|", ";");
        dueNext(check, "b00>", ";");
    }

    @Says("\"$\" and a number, 1 to 99")
    static void theNumberOfBallsIsNot0(Check check) {
        dueNext(check, "$", "123456789");
    }

    @Says("\"$\" and a number, 1 to 99")
    static void theNumberOfBallsIsAtMost99(Check check) {
        for (int number = 1; number <= 9; number++) {
            dueNext(check, "$" + number, "0123456789;");
        }
        for (int number = 10; number <= 99; number++) {
            dueNext(check, "$" + number, ";");
        }
    }

    @Says("numbers without a leading zero")
    static void aLeadingZeroIsAnError(Check check) {
        check.due("l0x01", Lay.written("l0x01").firstError(), 3);
        check.due("$01", Lay.written("$01").firstError(), 1);
        check.due("$1;$09", Lay.written("$1;$09").firstError(), 4);
    }

    @Says("Finds the first syntax error of the buffer.")
    static void nothingIsChangedNorSaved(Check check) {
        check.changesNothing(reels -> reels.firstError());
        PachinkoReels reels = Lay.written("$1;x");
        check.due("once", reels.firstError(), 3);
        check.due("again", reels.firstError(), 3);
        check.due("the buffer", reels.clearBuffer(), 4);
    }
}
