/** Promises 11 to 15: append, clearBuffer, firstError, bars, undo. */
public final class TextsTest {
    private static final Check CHECK = new Check();

    public static void main(String[] args) {
        append();
        clearBuffer();
        firstErrors();
        completeTexts();
        incompleteTexts();
        barsTakeTheOldOnesAway();
        laterBarsInPlaceOfEarlierOnes();
        bufferAndUndo();
        sixSavedStates();
        undoBringsAllBack();
        CHECK.end("TextsTest");
    }

    private static void append() {
        NeedleGrid grid = new NeedleGrid();
        CHECK.due("append(33)", grid.append(33), 1);
        CHECK.due("append(126)", grid.append(126), 2);
        CHECK.outOfRange(grid, "append(32)", () -> grid.append(32));
        CHECK.outOfRange(grid, "append(127)", () -> grid.append(127));
        CHECK.outOfRange(grid, "append(-1)", () -> grid.append(-1));
        for (int length = 3; length <= 60; length++) {
            CHECK.due("append", grid.append('a'), length);
        }
        CHECK.wrongState(grid, "append to 60 characters", () -> grid.append('a'));
        CHECK.outOfRange(grid, "append(32) to 60 characters", () -> grid.append(32));
        CHECK.due("it is not undoable", grid.count(8), 0);
        CHECK.due("the length", grid.clearBuffer(), 60);
    }

    private static void clearBuffer() {
        NeedleGrid grid = new NeedleGrid();
        CHECK.due("clearBuffer()", grid.clearBuffer(), 0);
        Check.type(grid, "xyz");
        CHECK.due("first error", grid.firstError(), 0);
        CHECK.due("clearBuffer()", grid.clearBuffer(), 3);
        CHECK.due("clearBuffer() again", grid.clearBuffer(), 0);
        CHECK.due("append behind it", grid.append('0'), 1);
        CHECK.due("no error any more", grid.firstError(), 1);
        CHECK.due("it is not undoable", grid.count(8), 0);
    }

    private static void errorDue(String text, int want) {
        NeedleGrid grid = new NeedleGrid();
        Check.type(grid, text);
        CHECK.due("firstError of " + text, grid.firstError(), want);
        CHECK.due("the buffer is as it was", grid.clearBuffer(), text.length());
    }

    private static void firstErrors() {
        String[] wrongAtTheEnd = {
            "6", "/", ":", "a", ";", "06", "0/", "0a", "0;", "00i", "00`", "00A", "000", "00;",
            "00a0", "00a:", "00a/", "00aa", "00a;", "00a51", "00a59", "00a60", "00a99", "00a5a", "00a500", "00a100",
            "00a1/", "00a1:", "00a10/", "00a4,", "00a5;;", "00a5;6", "00a5;a", "00a5;0;", "00a5;00a0", "00a5;00a50;6",
            "00a1;00a1;00a1;00a1;00a1;00a1;", "00a50;11b49;22c1;33d9;44e10;55h50;"
        };
        for (String text : wrongAtTheEnd) {
            errorDue(text, text.length() - 1);
            errorDue(text + "00a1", text.length() - 1);
        }
        String good = "00a50;11b49;22c1;33d9;44e10;55h50";
        for (int length = 0; length <= good.length(); length++) {
            errorDue(good.substring(0, length), length);
        }
        for (int strength = 1; strength <= 50; strength++) {
            errorDue("50f" + strength + ";05g" + strength, 7 + 2 * String.valueOf(strength).length());
        }
    }

    private static NeedleGrid layDue(String text, int... bars) {
        NeedleGrid grid = new NeedleGrid();
        Check.type(grid, text);
        CHECK.due("bars of " + text, grid.bars(), bars.length / 3);
        CHECK.due("bars then", grid.count(1), bars.length / 3);
        for (int number = 0; number < bars.length; number++) {
            CHECK.due(text + ", number " + number, grid.barOf(number / 3, number % 3), bars[number]);
        }
        CHECK.due("no bar more", grid.barOf(bars.length / 3, 0), NeedleGrid.NONE);
        CHECK.due("the buffer is empty", grid.clearBuffer(), 0);
        CHECK.due("saved states", grid.count(8), 1);
        return grid;
    }

    private static void completeTexts() {
        layDue("50a1", 5, 0, 1);
        layDue("05h50", 30, 7, 50);
        layDue("32d5", 15, 3, 5);
        layDue("55c7;00b12", 0, 1, 12, 35, 2, 7);
        layDue("00a1;10b2;20c3;30d4;40e5;50f6", 0, 0, 1, 1, 1, 2, 2, 2, 3, 3, 3, 4, 4, 4, 5, 5, 5, 6);
        NeedleGrid grid = layDue("22a20", 14, 0, 20);
        CHECK.due("its field is there", grid.cell(15, 3), 102000);
    }

    private static void incompleteTexts() {
        String[] texts = {"", "0", "00", "00a", "00a5;", "00a5;1", "00a5;11", "00a5;11h", "x", "00a51", "00a5x",
            "00a1;00a1;00a1;00a1;00a1;00a1;00a1"};
        for (String text : texts) {
            NeedleGrid grid = new NeedleGrid();
            grid.bar(3, 3, 3);
            Check.type(grid, text);
            CHECK.outOfRange(grid, "bars of " + text, grid::bars);
            CHECK.due("the buffer stays", grid.clearBuffer(), text.length());
            CHECK.due("the bar stays", grid.barOf(0, 0), 3);
            CHECK.due("nothing is saved more", grid.count(8), 1);
        }
    }

    private static void barsTakeTheOldOnesAway() {
        NeedleGrid grid = new NeedleGrid();
        for (int cell = 0; cell < 6; cell++) {
            grid.bar(cell, 1, 9);
        }
        Check.type(grid, "55a3");
        CHECK.due("bars()", grid.bars(), 1);
        CHECK.due("the new one", grid.barOf(0, 0), 35);
        CHECK.due("no field of the old ones", grid.cell(34, 3), 100000 + 300);
        grid.undo();
        CHECK.due("the old ones behind undo", grid.count(1), 6);
        CHECK.due("the first", grid.barOf(0, 0), 0);
    }

    private static void laterBarsInPlaceOfEarlierOnes() {
        layDue("22a20;22b3", 14, 1, 3);
        layDue("22b3;11a1;22a20", 7, 0, 1, 14, 0, 20);
        layDue("00a1;00a2;00a3;00a4;00a5;00a6", 0, 0, 6);
    }

    private static void bufferAndUndo() {
        NeedleGrid grid = new NeedleGrid();
        Check.type(grid, "22a20");
        grid.needle(0, 0);
        grid.append(';');
        grid.undo();
        CHECK.due("undo leaves the buffer alone", grid.firstError(), 6);
        grid.clearBuffer();
        Check.type(grid, "22a20");
        grid.bars();
        grid.undo();
        CHECK.due("no bars behind undo", grid.count(1), 0);
        CHECK.due("nor does the text come back", grid.clearBuffer(), 0);
    }

    private static void sixSavedStates() {
        NeedleGrid grid = new NeedleGrid();
        for (int friction = 1; friction <= 8; friction++) {
            grid.friction(0, friction);
            CHECK.due("saved states", grid.count(8), Math.min(friction, 6));
        }
        for (int left = 5; left >= 0; left--) {
            CHECK.due("undo", grid.undo(), left);
            CHECK.due("friction", grid.cell(0, 1), left + 2);
        }
        CHECK.wrongState(grid, "the oldest two are dropped", grid::undo);
        grid.friction(0, 500);
        grid.friction(0, 600);
        grid.undo();
        grid.friction(0, 700);
        CHECK.due("undo is not undone", grid.undo(), 1);
        CHECK.due("friction", grid.cell(0, 1), 500);
        CHECK.due("undo", grid.undo(), 0);
        CHECK.due("friction", grid.cell(0, 1), 2);
    }

    private static void undoBringsAllBack() {
        NeedleGrid grid = new NeedleGrid();
        long before = grid.digest();
        Runnable[] changes = {
            () -> grid.needle(9, 1), () -> grid.friction(9, 0), () -> grid.hold(9, true), () -> grid.swap(1, 1),
            () -> grid.bar(9, 1, 40), () -> grid.coil(9, 1), () -> grid.set(0, 9), () -> grid.set(1, 9),
            () -> grid.set(2, 9), () -> grid.step(9)
        };
        for (Runnable change : changes) {
            change.run();
            CHECK.due("one saved state", grid.count(8), 1);
            grid.undo();
            CHECK.due("digest behind undo", grid.digest(), before);
        }
        grid.bar(8, 2, 50);
        grid.step(3);
        grid.undo();
        grid.undo();
        CHECK.due("digest behind undo of steps with a bar", grid.digest(), before);
    }
}
