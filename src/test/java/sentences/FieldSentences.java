/** The sections "What it is", "Terms" and "Field", sentence by sentence. */
final class FieldSentences {
    private FieldSentences() {
    }

    static void tell(Sentences all) {
        all.in("What it is");
        all.asksNothing("Compass needles on a grid turned by bars with friction and a coil");
        all.holds("An object is used for at most 512 calls after it has been made", FieldSentences::theLast512thCall);
        all.asksNothing("what later calls answer is free.");
        all.in("Terms");
        all.asksNothing("All numbers are integers, but for a share");
        all.holds("divisions are rounded down (of numbers below 0, too, to the next lesser whole one).",
                FieldSentences::divisionsAreRoundedDown);
        all.asksNothing("Grid, directions");
        all.holds("The grid has 6 rows of 6 cells", FieldSentences::sixRowsOfSixCells);
        all.holds("cells are numbered by rows from 0 to 35: the cell c is in the column c % 6 and the row c / 6.",
                FieldSentences::cellsAreNumberedByRows);
        all.holds("Directions are numbered from 0 to 7: 0 points right (x 1, y 0), 1 right and down (1, 1), 2 down "
                + "(0, 1), 3 (-1, 1), 4 left (-1, 0), 5 (-1, -1), 6 up (0, -1), 7 (1, -1).",
                FieldSentences::directionsAreVectors);
        all.holds("x grows with the column, y with the row.", FieldSentences::xGrowsWithTheColumn);
        all.holds("Each cell has a needle with a direction, at first 6, and a friction, 0 to 999, at first 10.",
                FieldSentences::eachCellHasANeedle);
        all.holds("A needle can be held fast.", FieldSentences::noNeedleAndEachIsHeld);
        tellField(all);
    }

    private static void tellField(Sentences all) {
        all.in("Field");
        all.holds("The field at a cell is a vector (x, y), the sum of these:", FieldSentences::theFieldIsASum);
        all.holds("The earth: (0, 0 - setting 0).", FieldSentences::theEarthPointsUp);
        all.holds("The coil: setting 1, times its turns, in the direction of the coil.", FieldSentences::coilsField);
        all.holds("(The coil has turns, 0 to 50, at first 0, and a direction, at first 0.)",
                FieldSentences::coilsRange);
        all.holds("Each bar, but one in the cell itself", FieldSentences::noBarsFieldInItsOwnCell);
        all.holds("let (p, q) be how many columns and rows the cell is away from the bar's cell, (u, v) the "
                + "direction of the bar, and s its strength times 100, divided by (p * p + q * q).",
                FieldSentences::barsFieldByDistance);
        all.holds("If the square of (p * u + q * v), times 2, is at least (p * p + q * q) * (u * u + v * v), the "
                + "cell lies along the bar, and s * (u, v) is added", FieldSentences::alongTheBarAtLeast);
        all.holds("otherwise it lies beside it, and (s / 2) * (u, v) is taken away.", FieldSentences::besideTheBar);
        all.holds("Each of the up to 4 needles above, below, left and right: setting 2 times its direction.",
                FieldSentences::upToFourNeighbours);
        all.holds("There are at most 6 bars", FieldSentences::atMostSixBars);
        all.holds("no two in one cell", FieldSentences::noTwoBarsInOneCell);
        all.holds("a bar lies in a cell (where the needle is all the same)", FieldSentences::theNeedleIsAllTheSame);
        all.holds("and has a direction and a strength, 1 to 50.", FieldSentences::barsStrength);
    }

    private static void fieldDue(Check check, NeedleGrid grid, int cell, int x, int y) {
        check.due("x at " + cell, grid.cell(cell, 3), 100000 + x);
        check.due("y at " + cell, grid.cell(cell, 4), 100000 + y);
    }

    private static void theLast512thCall(Check check) {
        NeedleGrid grid = new NeedleGrid();
        for (int call = 1; call <= 510; call++) {
            grid.step(50);
        }
        check.due("the 511th call", grid.undo(), 5);
        check.due("the 512th call", grid.count(0), 509 * 50);
    }

    /** No division of the document has a number below 0; a bar to the left multiplies by -1 behind it. */
    private static void divisionsAreRoundedDown(Check check) {
        NeedleGrid right = Scenes.withoutField();
        right.bar(0, 0, 1);
        fieldDue(check, right, 3, 11, 0);
        fieldDue(check, right, 4, 6, 0);
        fieldDue(check, right, 12, -12, 0);
        fieldDue(check, right, 18, -5, 0);
        fieldDue(check, right, 34, -1, 0);
        NeedleGrid left = Scenes.withoutField();
        left.bar(0, 4, 1);
        fieldDue(check, left, 3, -11, 0);
        fieldDue(check, left, 12, 12, 0);
        fieldDue(check, left, 18, 5, 0);
    }

    private static void sixRowsOfSixCells(Check check) {
        NeedleGrid grid = new NeedleGrid();
        check.due("36 needles", grid.pointing(6), 36);
        check.due("the last cell", grid.cell(35, 0), 6);
        check.noSuch(grid, "one cell more", () -> grid.cell(36, 0));
    }

    /** The cells 5 and 6 follow one another, but lie at the two ends of their rows. */
    private static void cellsAreNumberedByRows(Check check) {
        NeedleGrid grid = Scenes.withoutField();
        grid.bar(5, 2, 1);
        fieldDue(check, grid, 4, 0, -50);
        fieldDue(check, grid, 0, 0, -2);
        fieldDue(check, grid, 6, 0, -1);
        fieldDue(check, grid, 11, 0, 100);
        fieldDue(check, grid, 30, 0, 2);
        fieldDue(check, grid, 35, 0, 4);
        grid.set(2, 1);
        grid.needle(12, 0);
        fieldDue(check, grid, 11, 0, 100 - 3);
        fieldDue(check, grid, 13, 1, -2 - 3);
        fieldDue(check, grid, 6, 1, -1 - 2);
        fieldDue(check, grid, 18, 1, -1 - 2);
    }

    private static void directionsAreVectors(Check check) {
        int[] x = {1, 1, 0, -1, -1, -1, 0, 1};
        int[] y = {0, 1, 1, 1, 0, -1, -1, -1};
        for (int direction = 0; direction < 8; direction++) {
            NeedleGrid grid = Scenes.withoutField();
            grid.set(1, 1);
            grid.coil(1, direction);
            fieldDue(check, grid, 14, x[direction], y[direction]);
        }
    }

    private static void xGrowsWithTheColumn(Check check) {
        NeedleGrid grid = Scenes.withoutField();
        grid.bar(14, 1, 1);
        fieldDue(check, grid, 21, 50, 50);
        fieldDue(check, grid, 7, 50, 50);
        fieldDue(check, grid, 9, -25, -25);
        fieldDue(check, grid, 19, -25, -25);
    }

    private static void eachCellHasANeedle(Check check) {
        NeedleGrid grid = new NeedleGrid();
        for (int cell = 0; cell < 36; cell++) {
            check.due("direction of " + cell, grid.cell(cell, 0), 6);
            check.due("friction of " + cell, grid.cell(cell, 1), 10);
        }
        grid.friction(0, 0);
        grid.friction(35, 999);
        check.due("no friction", grid.cell(0, 1), 0);
        check.due("the most friction", grid.cell(35, 1), 999);
        check.outOfRangeBeyond(grid, "friction", 0, 999, friction -> grid.friction(0, friction));
    }

    private static void noNeedleAndEachIsHeld(Check check) {
        NeedleGrid grid = Scenes.earthAlone();
        check.due("none is held at first", grid.count(4), 0);
        for (int cell = 0; cell < 36; cell++) {
            grid.needle(cell, 2);
            grid.hold(cell, true);
        }
        check.due("each is held", grid.count(4), 36);
        check.due("none turns", grid.step(50), 0);
        check.due("all point where they did", grid.pointing(2), 36);
    }

    private static void theFieldIsASum(Check check) {
        NeedleGrid grid = new NeedleGrid();
        grid.coil(3, 0);
        grid.bar(14, 1, 1);
        grid.needle(9, 0);
        fieldDue(check, grid, 15, 6 + 100 + 3, -20 + 100 - 9);
    }

    private static void theEarthPointsUp(Check check) {
        NeedleGrid grid = Scenes.earthAlone();
        int[] cells = {0, 5, 14, 30, 35};
        for (int earth : new int[] {0, 1, 199, 200}) {
            grid.set(0, earth);
            for (int cell : cells) {
                fieldDue(check, grid, cell, 0, -earth);
            }
        }
    }

    private static void coilsField(Check check) {
        NeedleGrid grid = Scenes.withoutField();
        grid.set(1, 20);
        grid.coil(0, 1);
        fieldDue(check, grid, 0, 0, 0);
        grid.coil(1, 1);
        fieldDue(check, grid, 0, 20, 20);
        grid.coil(50, 1);
        fieldDue(check, grid, 0, 1000, 1000);
        fieldDue(check, grid, 35, 1000, 1000);
        grid.coil(50, 5);
        fieldDue(check, grid, 35, -1000, -1000);
        grid.set(1, 0);
        fieldDue(check, grid, 35, 0, 0);
    }

    private static void coilsRange(Check check) {
        NeedleGrid grid = new NeedleGrid();
        check.due("turns at first", grid.count(2), 0);
        check.due("direction at first", grid.count(3), 0);
        grid.coil(50, 0);
        check.due("the most turns", grid.count(2), 50);
        grid.coil(0, 0);
        check.due("no turns", grid.count(2), 0);
        check.outOfRangeBeyond(grid, "coil", 0, 50, turns -> grid.coil(turns, 0));
    }

    private static void noBarsFieldInItsOwnCell(Check check) {
        for (int cell : new int[] {0, 14, 35}) {
            for (int direction = 0; direction < 8; direction++) {
                NeedleGrid grid = Scenes.withoutField();
                grid.bar(cell, direction, 50);
                fieldDue(check, grid, cell, 0, 0);
            }
        }
        NeedleGrid two = Scenes.withoutField();
        two.bar(14, 0, 1);
        two.bar(15, 2, 1);
        fieldDue(check, two, 14, 0, -50);
        fieldDue(check, two, 15, 100, 0);
        fieldDue(check, two, 16, 25, -50);
    }

    private static void barsFieldByDistance(Check check) {
        NeedleGrid grid = Scenes.withoutField();
        grid.bar(0, 0, 50);
        fieldDue(check, grid, 1, 5000, 0);
        fieldDue(check, grid, 5, 200, 0);
        fieldDue(check, grid, 35, 100, 0);
        fieldDue(check, grid, 13, -500, 0);
        NeedleGrid other = Scenes.withoutField();
        other.bar(35, 0, 50);
        fieldDue(check, other, 34, 5000, 0);
        fieldDue(check, other, 30, 200, 0);
        fieldDue(check, other, 0, 100, 0);
        NeedleGrid weak = Scenes.withoutField();
        weak.bar(0, 1, 1);
        fieldDue(check, weak, 35, 2, 2);
    }

    /** 2 * 1 * 1 is 2 * 1, just enough; 2 * 5 * 5 is 50, and above 41. */
    private static void alongTheBarAtLeast(Check check) {
        NeedleGrid straight = Scenes.withoutField();
        straight.bar(0, 0, 50);
        fieldDue(check, straight, 7, 2500, 0);
        fieldDue(check, straight, 35, 100, 0);
        fieldDue(check, straight, 29, 121, 0);
        NeedleGrid behind = Scenes.withoutField();
        behind.bar(35, 0, 50);
        fieldDue(check, behind, 28, 2500, 0);
        fieldDue(check, behind, 0, 100, 0);
        fieldDue(check, behind, 6, 121, 0);
        NeedleGrid slanting = Scenes.withoutField();
        slanting.bar(0, 1, 50);
        fieldDue(check, slanting, 1, 5000, 5000);
        fieldDue(check, slanting, 5, 200, 200);
        fieldDue(check, slanting, 6, 5000, 5000);
        fieldDue(check, slanting, 30, 200, 200);
        NeedleGrid slantingBehind = Scenes.withoutField();
        slantingBehind.bar(35, 3, 50);
        fieldDue(check, slantingBehind, 34, -5000, 5000);
        fieldDue(check, slantingBehind, 5, -200, 200);
    }

    /** 2 * 4 * 4 is 32, and not 41; 2 * 4 * 4 is not 26 * 2 either. */
    private static void besideTheBar(Check check) {
        NeedleGrid straight = Scenes.withoutField();
        straight.bar(0, 0, 50);
        fieldDue(check, straight, 34, -60, 0);
        fieldDue(check, straight, 6, -2500, 0);
        NeedleGrid behind = Scenes.withoutField();
        behind.bar(35, 0, 50);
        fieldDue(check, behind, 1, -60, 0);
        fieldDue(check, behind, 29, -2500, 0);
        NeedleGrid slanting = Scenes.withoutField();
        slanting.bar(1, 1, 50);
        fieldDue(check, slanting, 30, -96, -96);
        fieldDue(check, slanting, 6, -1250, -1250);
        NeedleGrid otherSlanting = Scenes.withoutField();
        otherSlanting.bar(0, 3, 50);
        fieldDue(check, otherSlanting, 7, 1250, -1250);
        fieldDue(check, otherSlanting, 11, 96, -96);
    }

    private static void upToFourNeighbours(Check check) {
        NeedleGrid grid = new NeedleGrid();
        grid.set(0, 0);
        grid.set(2, 50);
        for (int corner : new int[] {0, 5, 30, 35}) {
            fieldDue(check, grid, corner, 0, -2 * 50);
        }
        for (int edge : new int[] {1, 4, 6, 11, 24, 29, 31, 34}) {
            fieldDue(check, grid, edge, 0, -3 * 50);
        }
        for (int inner : new int[] {7, 10, 14, 25, 28}) {
            fieldDue(check, grid, inner, 0, -4 * 50);
        }
        grid.needle(14, 0);
        for (int beside : new int[] {8, 13, 15, 20}) {
            fieldDue(check, grid, beside, 50, -3 * 50);
        }
        for (int other : new int[] {7, 9, 14, 19, 21}) {
            fieldDue(check, grid, other, 0, -4 * 50);
        }
        grid.set(2, 0);
        fieldDue(check, grid, 8, 0, 0);
    }

    private static void atMostSixBars(Check check) {
        NeedleGrid grid = Scenes.sixBars();
        check.due("six bars", grid.count(1), 6);
        check.wrongState(grid, "a seventh", () -> grid.bar(6, 0, 1));
        Check.type(grid, "00a1;10a1;20a1;30a1;40a1;50a1");
        check.due("six bars by a text", grid.bars(), 6);
        Check.type(grid, "00a1;10a1;20a1;30a1;40a1;50a1;51a1");
        check.outOfRange(grid, "seven by a text", grid::bars);
    }

    private static void noTwoBarsInOneCell(Check check) {
        NeedleGrid grid = Scenes.withoutField();
        grid.bar(14, 0, 50);
        check.due("still one", grid.bar(14, 2, 1), 1);
        fieldDue(check, grid, 15, 0, -50);
        check.due("no second one", grid.barOf(1, 0), NeedleGrid.NONE);
        check.due("it is gone at once", grid.unbar(14), 0);
    }

    private static void theNeedleIsAllTheSame(Check check) {
        NeedleGrid grid = new NeedleGrid();
        grid.needle(14, 2);
        grid.bar(14, 0, 50);
        check.due("it points where it did", grid.cell(14, 0), 2);
        check.due("it turns its neighbours as it did", grid.cell(8, 4), 100000 - 20 - 9 + 3);
        check.due("it turns as it did, to its aim", grid.cell(14, 5), 6);
        grid.step(1);
        check.due("it has turned", grid.cell(14, 0), 3);
        grid.unbar(14);
        check.due("it is there without the bar", grid.cell(14, 0), 3);
    }

    private static void barsStrength(Check check) {
        NeedleGrid grid = new NeedleGrid();
        grid.bar(14, 7, 1);
        check.due("the least", grid.barOf(0, 2), 1);
        grid.bar(14, 7, 50);
        check.due("the most", grid.barOf(0, 2), 50);
        check.due("its direction", grid.barOf(0, 1), 7);
        check.outOfRangeBeyond(grid, "bar", 1, 50, strength -> grid.bar(14, 7, strength));
    }
}
