/** The section "Input text" and promises 11 to 15, sentence by sentence. */
final class TextSentences {
    /** The longest text: 35 characters. */
    private static final String LONGEST = "00a50;11b49;22c10;33d19;44e20;55h50";
    private static final String SIX_PARTS = "00a1;10b2;20c3;30d4;40e5;50f6";

    private TextSentences() {
    }

    static void tell(Sentences all) {
        all.in("Input text");
        all.holds("The buffer has at most 60 characters.", TextSentences::atMostSixtyCharacters);
        all.holds("Bars as a text are 1 to 6 parts", TextSentences::oneToSixParts);
        all.holds("with \";\" between them", TextSentences::semicolonsBetween);
        all.holds("each a column and a row, 0 to 5 each (two digits)", TextSentences::columnAndRow);
        all.holds("a direction as a letter, \"a\" to \"h\" (0 to 7)", TextSentences::letter);
        all.holds("and a strength, 1 to 50", TextSentences::strength);
        all.holds("without a leading zero.", TextSentences::noLeadingZero);
        all.holds("The buffer is read from left to right", TextSentences::fromLeftToRight);
        all.holds("a character is a syntax error if no bars as a text begin with the characters before it and this "
                + "character.", TextSentences::noBarsBeginSo);
        tellBuffer(all);
        tellBars(all);
        tellUndo(all);
    }

    private static void tellBuffer(Sentences all) {
        all.in("Promise 11");
        all.holds("Appends a character to the buffer.", TextSentences::appendGoesToTheEnd);
        all.holds("`code`: the character code, 33 to 126", TextSentences::eachCode);
        all.holds("Returns the new length of the buffer.", TextSentences::appendReturnsTheLength);
        all.holds("Throws `IllegalArgumentException` if code is not 33 to 126", check -> {
            NeedleGrid grid = typed("22a");
            check.outOfRangeBeyond(grid, "append", 33, 126, grid::append);
            check.outOfRange(grid, "append of 0", () -> grid.append(0));
            check.outOfRange(grid, "append of a letter, 256 more", () -> grid.append('a' + 256));
        });
        all.holds("Throws `IllegalStateException` if the buffer has 60 characters", TextSentences::appendToAFullBuffer);
        all.in("Promise 12");
        all.holds("Clears the buffer.", TextSentences::clearBufferClears);
        all.holds("Returns the length that it had.", TextSentences::clearBufferReturnsTheLength);
        all.in("Promise 13");
        all.holds("Finds the first syntax error of the buffer.", TextSentences::theFirstOfSeveralErrors);
        all.holds("Returns the index of the first character that is a syntax error",
                TextSentences::errorsAtTheFirstAndTheLastIndex);
        all.holds("the length of the buffer if there is none.", TextSentences::noErrors);
    }

    private static void tellBars(Sentences all) {
        all.in("Promise 14");
        all.holds("Takes all bars away", TextSentences::barsTakesAllAway);
        all.holds("and lays those in the buffer", TextSentences::barsLaysThose);
        all.holds("one after the other (a later one in place of an earlier one in the same cell)",
                TextSentences::aLaterOneInPlaceOfAnEarlierOne);
        all.holds("and clears the buffer.", TextSentences::barsClearsTheBuffer);
        all.holds("Undoable.", TextSentences::barsIsUndoable);
        all.holds("Returns how many bars there are then.", TextSentences::barsReturnsHowMany);
        all.holds("Throws `IllegalArgumentException` if the buffer is not complete bars as a text",
                TextSentences::incompleteBars);
    }

    private static void tellUndo(Sentences all) {
        all.in("Promise 15");
        all.holds("Restores the latest saved state, and drops it.", TextSentences::undoRestoresTheLatest);
        all.holds("Returns how many saved states are left.", TextSentences::undoReturnsHowManyAreLeft);
        all.holds("Throws `IllegalStateException` if there is none", TextSentences::undoWithoutASavedState);
    }

    private static NeedleGrid typed(String text) {
        NeedleGrid grid = new NeedleGrid();
        Check.type(grid, text);
        return grid;
    }

    /** The last character is the first syntax error, whatever follows it. */
    private static void errorAtTheEnd(Check check, String text) {
        check.due("firstError of " + text, typed(text).firstError(), text.length() - 1);
        check.due("firstError of more than " + text, typed(text + "1").firstError(), text.length() - 1);
        refused(check, text);
    }

    private static void refused(Check check, String text) {
        NeedleGrid grid = typed(text);
        check.outOfRange(grid, "bars of " + text, grid::bars);
    }

    /** No syntax error, but bars are not there yet. */
    private static void begun(Check check, String text) {
        check.due("firstError of " + text, typed(text).firstError(), text.length());
        refused(check, text);
    }

    private static void laid(Check check, String text, int bars) {
        NeedleGrid grid = typed(text);
        check.due("firstError of " + text, grid.firstError(), text.length());
        check.due("bars of " + text, grid.bars(), bars);
    }

    private static void barDue(Check check, String text, int cell, int direction, int strength) {
        NeedleGrid grid = typed(text);
        grid.bars();
        check.due("cell of " + text, grid.barOf(0, 0), cell);
        check.due("direction of " + text, grid.barOf(0, 1), direction);
        check.due("strength of " + text, grid.barOf(0, 2), strength);
    }

    private static void atMostSixtyCharacters(Check check) {
        NeedleGrid grid = typed("x".repeat(59));
        check.due("the 60th", grid.append('x'), 60);
        check.wrongState(grid, "a 61st", () -> grid.append('x'));
        check.due("length", grid.clearBuffer(), 60);
        check.due("the first again", grid.append('x'), 1);
    }

    private static void oneToSixParts(Check check) {
        begun(check, "");
        laid(check, "00a1", 1);
        laid(check, "00a1;10b2", 2);
        laid(check, SIX_PARTS, 6);
        laid(check, LONGEST, 6);
        errorAtTheEnd(check, SIX_PARTS + ";");
        errorAtTheEnd(check, LONGEST + ";");
        errorAtTheEnd(check, "00a1;00a1;00a1;00a1;00a1;00a1;");
    }

    private static void semicolonsBetween(Check check) {
        errorAtTheEnd(check, ";");
        errorAtTheEnd(check, "0;");
        errorAtTheEnd(check, "00;");
        errorAtTheEnd(check, "00a;");
        begun(check, "00a1;");
        errorAtTheEnd(check, "00a1;;");
        errorAtTheEnd(check, "00a1,");
        errorAtTheEnd(check, "00a1:");
        errorAtTheEnd(check, "00a10a");
        laid(check, "00a1;55h50", 2);
    }

    private static void columnAndRow(Check check) {
        barDue(check, "00a1", 0, 0, 1);
        barDue(check, "50a1", 5, 0, 1);
        barDue(check, "05a1", 30, 0, 1);
        barDue(check, "55a1", 35, 0, 1);
        for (String text : new String[] {"6", "9", "/", ":", "a", "-", "!", "~", "06", "09", "0/", "0:", "0a", "000",
            "00a1;6", "00a1;/", "00a1;06", "00a1;0/"}) {
            errorAtTheEnd(check, text);
        }
        begun(check, "5");
        begun(check, "55");
        begun(check, "00a1;5");
        begun(check, "00a1;55");
    }

    private static void letter(Check check) {
        for (int direction = 0; direction <= 7; direction++) {
            barDue(check, "22" + (char) ('a' + direction) + "1", 14, direction, 1);
        }
        for (String text : new String[] {"22i", "22`", "22A", "22H", "220", "22~", "22!", "22ab", "00a1;22i", "00a1;22`"}) {
            errorAtTheEnd(check, text);
        }
        begun(check, "22a");
        begun(check, "00a1;22h");
    }

    private static void strength(Check check) {
        for (int strength = 1; strength <= 50; strength++) {
            barDue(check, "22a" + strength, 14, 0, strength);
        }
        for (String text : new String[] {"22a51", "22a59", "22a60", "22a90", "22a99", "22a100", "22a500", "22a101",
            "22a/", "22a:", "22a-", "22a1/", "22a1:", "22a5/", "22a5:", "00a1;22a51"}) {
            errorAtTheEnd(check, text);
        }
    }

    private static void noLeadingZero(Check check) {
        errorAtTheEnd(check, "22a0");
        errorAtTheEnd(check, "00a1;22a0");
        check.due("firstError of 22a01", typed("22a01").firstError(), 3);
        check.due("firstError of 22a050", typed("22a050").firstError(), 3);
        barDue(check, "22a10", 14, 0, 10);
    }

    private static void fromLeftToRight(Check check) {
        check.due("bars behind an error", typed("x22a20").firstError(), 0);
        check.due("an error behind bars", typed("22a20x").firstError(), 5);
        check.due("an error amid bars", typed("22x20").firstError(), 2);
    }

    private static void noBarsBeginSo(Check check) {
        for (int length = 0; length <= LONGEST.length(); length++) {
            check.due("each beginning of bars", typed(LONGEST.substring(0, length)).firstError(), length);
        }
        check.due("5 may follow 4", typed("00a45").firstError(), 5);
        check.due("1 may not follow 5, as 0 may", typed("00a51").firstError(), 4);
        check.due("nothing but ; may follow 6", typed("00a60").firstError(), 4);
        errorAtTheEnd(check, LONGEST + "0");
    }

    private static void appendGoesToTheEnd(Check check) {
        NeedleGrid grid = typed("22a5");
        grid.append('0');
        check.due("bars", grid.bars(), 1);
        check.due("22a50, not 22a05", grid.barOf(0, 2), 50);
    }

    private static void eachCode(Check check) {
        NeedleGrid low = new NeedleGrid();
        for (int code = 33; code <= 92; code++) {
            check.due("append(" + code + ")", low.append(code), code - 32);
        }
        NeedleGrid high = new NeedleGrid();
        for (int code = 67; code <= 126; code++) {
            check.due("append(" + code + ")", high.append(code), code - 66);
        }
    }

    private static void appendReturnsTheLength(Check check) {
        NeedleGrid grid = new NeedleGrid();
        for (int length = 1; length <= 60; length++) {
            check.due("append", grid.append('0'), length);
        }
        grid.clearBuffer();
        check.due("append behind clearBuffer", grid.append('0'), 1);
    }

    private static void appendToAFullBuffer(Check check) {
        NeedleGrid grid = typed("0".repeat(59));
        check.due("append to 59", grid.append('0'), 60);
        check.wrongState(grid, "append to 60", () -> grid.append('0'));
        check.wrongState(grid, "append to 60 again", () -> grid.append(126));
    }

    private static void clearBufferClears(Check check) {
        NeedleGrid grid = typed("x".repeat(60));
        grid.clearBuffer();
        check.due("no error is left", grid.firstError(), 0);
        check.outOfRange(grid, "bars", grid::bars);
        Check.type(grid, "22a20");
        check.due("what is typed behind it", grid.bars(), 1);
        check.due("saved states: that of bars alone", grid.count(8), 1);
    }

    private static void clearBufferReturnsTheLength(Check check) {
        NeedleGrid grid = new NeedleGrid();
        check.due("an empty buffer", grid.clearBuffer(), 0);
        grid.append('x');
        check.due("one character", grid.clearBuffer(), 1);
        check.due("cleared already", grid.clearBuffer(), 0);
        Check.type(grid, "x".repeat(60));
        check.due("a full one", grid.clearBuffer(), 60);
        check.due("cleared again", grid.clearBuffer(), 0);
    }

    private static void theFirstOfSeveralErrors(Check check) {
        check.due("firstError of 0x0y", typed("0x0y").firstError(), 1);
        check.due("firstError of 00a1;xyz", typed("00a1;xyz").firstError(), 5);
    }

    private static void errorsAtTheFirstAndTheLastIndex(Check check) {
        check.due("firstError of x", typed("x").firstError(), 0);
        check.due("in a full buffer, from the first", typed("x".repeat(60)).firstError(), 0);
        check.due("behind the longest text", typed(LONGEST + "x").firstError(), 35);
        check.due("in a full buffer, behind it", typed(LONGEST + ";".repeat(25)).firstError(), 35);
        NeedleGrid grid = typed("00a");
        grid.append('0');
        check.due("the last one", grid.firstError(), 3);
        check.due("asked again", grid.firstError(), 3);
    }

    private static void noErrors(Check check) {
        check.due("an empty buffer", new NeedleGrid().firstError(), 0);
        check.due("one character", typed("0").firstError(), 1);
        check.due("the longest text", typed(LONGEST).firstError(), 35);
        NeedleGrid grid = typed("xxx");
        grid.clearBuffer();
        check.due("a cleared buffer", grid.firstError(), 0);
    }

    private static void barsTakesAllAway(Check check) {
        NeedleGrid grid = Scenes.sixBars();
        Check.type(grid, "55a1");
        check.due("bars", grid.bars(), 1);
        check.due("the new one alone", grid.barOf(0, 0), 35);
        check.due("no second one", grid.barOf(1, 0), NeedleGrid.NONE);
        check.due("nothing is left of their field", grid.cell(6, 3), 100000 + 2);
        NeedleGrid rows = new NeedleGrid();
        for (int row = 0; row < 6; row++) {
            rows.bar(row * 6 + 4, 0, 1);
        }
        Check.type(rows, "55a1");
        check.due("one in each row is taken away", rows.bars(), 1);
        NeedleGrid far = Scenes.withoutField();
        far.bar(0, 4, 50);
        Check.type(far, "55e1");
        far.bars();
        check.due("the far one's field", far.cell(1, 3), 100000 + 1);
        check.due("a weak one alone would lie where one lay", far.bestBar(1, 4, 1), 4);
    }

    private static void barsLaysThose(Check check) {
        NeedleGrid grid = Scenes.sixBars();
        Check.type(grid, "05a50;15b49;25c10;35d9;45g1;55h50");
        check.due("bars", grid.bars(), 6);
        int[] directions = {0, 1, 2, 3, 6, 7};
        int[] strengths = {50, 49, 10, 9, 1, 50};
        for (int place = 0; place < 6; place++) {
            check.due("cell of " + place, grid.barOf(place, 0), 30 + place);
            check.due("direction of " + place, grid.barOf(place, 1), directions[place]);
            check.due("strength of " + place, grid.barOf(place, 2), strengths[place]);
        }
        barDue(check, "01a1", 6, 0, 1);
        NeedleGrid field = typed("22a20");
        field.bars();
        check.due("the field is there at once", field.cell(15, 3), 102000);
    }

    private static void aLaterOneInPlaceOfAnEarlierOne(Check check) {
        barDue(check, "22a20;22b3", 14, 1, 3);
        laid(check, "22a20;22b3", 1);
        barDue(check, "22a1;22a2;22a3;22a4;22a5;22h50", 14, 7, 50);
        laid(check, "22a1;22a2;22a3;22a4;22a5;22h50", 1);
        laid(check, "22a1;00a2;22a3;00a4;22a5;00h50", 2);
    }

    private static void barsClearsTheBuffer(Check check) {
        NeedleGrid grid = typed(LONGEST);
        grid.bars();
        check.due("length", grid.clearBuffer(), 0);
        check.outOfRange(grid, "bars again", grid::bars);
        check.due("append behind it", grid.append('0'), 1);
    }

    private static void barsIsUndoable(Check check) {
        NeedleGrid grid = new NeedleGrid();
        grid.bar(14, 3, 3);
        long before = grid.digest();
        Check.type(grid, LONGEST);
        grid.bars();
        check.due("saved states", grid.count(8), 2);
        check.due("undo", grid.undo(), 1);
        check.due("all is as it was, the buffer is empty", grid.digest(), before);
    }

    private static void barsReturnsHowMany(Check check) {
        laid(check, "22a20", 1);
        laid(check, "22a20;33b10", 2);
        laid(check, SIX_PARTS, 6);
        laid(check, "22a1;22a2;33a3", 2);
    }

    private static void incompleteBars(Check check) {
        String[] texts = {"", "2", "22", "22a", "22a2;", "22a2;3", "22a2;33", "22a2;33b", LONGEST + ";", "x", "22a0",
            "22a51", "22a2x", ";22a2", "22A2", "66a2", SIX_PARTS + ";51a1", "x".repeat(60)};
        for (String text : texts) {
            NeedleGrid grid = Scenes.sixBars();
            Check.type(grid, text);
            check.outOfRange(grid, "bars of " + text, grid::bars);
            check.due("the bars are there", grid.count(1), 6);
            check.due("the text is there", grid.clearBuffer(), text.length());
        }
    }

    private static void undoRestoresTheLatest(Check check) {
        NeedleGrid grid = new NeedleGrid();
        grid.needle(0, 1);
        grid.needle(0, 2);
        grid.undo();
        check.due("from before the second call", grid.cell(0, 0), 1);
        grid.undo();
        check.due("from before the first call", grid.cell(0, 0), 6);
        NeedleGrid dropped = Scenes.sixBars();
        dropped.needle(0, 1);
        dropped.undo();
        check.due("of six, with one dropped", dropped.cell(0, 0), 6);
        check.due("bars", dropped.count(1), 6);
        NeedleGrid coiled = new NeedleGrid();
        coiled.coil(50, 1);
        coiled.bar(14, 1, 50);
        coiled.undo();
        coiled.undo();
        check.due("no needle turns, now or later", coiled.step(50), 0);
        coiled.needle(14, 5);
        check.due("x beside it", coiled.cell(13, 3), 100000 - 3);
    }

    private static void undoReturnsHowManyAreLeft(Check check) {
        NeedleGrid grid = Scenes.sixBars();
        grid.needle(0, 1);
        for (int left = 5; left >= 0; left--) {
            check.due("undo", grid.undo(), left);
            check.due("saved states", grid.count(8), left);
        }
    }

    private static void undoWithoutASavedState(Check check) {
        NeedleGrid grid = new NeedleGrid();
        check.wrongState(grid, "undo of a new object", grid::undo);
        grid.append('x');
        grid.clearBuffer();
        check.wrongState(grid, "undo of what is not undoable", grid::undo);
        grid.needle(0, 1);
        grid.undo();
        check.wrongState(grid, "undo of undo", grid::undo);
        check.due("nothing was restored", grid.cell(0, 0), 6);
    }
}
