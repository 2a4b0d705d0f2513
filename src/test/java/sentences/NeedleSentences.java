/** Promises 1 to 5, sentence by sentence. */
final class NeedleSentences {
    private NeedleSentences() {
    }

    static void tell(Sentences all) {
        all.in("Promise 1");
        all.holds("`NeedleGrid()`: Creates a grid without bars, with an empty buffer.", NeedleSentences::newObject);
        tellNeedle(all);
        tellFriction(all);
        tellHold(all);
        tellSwap(all);
    }

    private static void tellNeedle(Sentences all) {
        all.in("Promise 2");
        all.holds("Turns a needle by hand (also one that is held fast).", NeedleSentences::needleTurns);
        all.holds("Undoable.", check -> {
            NeedleGrid grid = new NeedleGrid();
            check.undoable(grid, "needle", () -> grid.needle(0, 7));
            check.undoable(grid, "needle to where it points", () -> grid.needle(0, 6));
        });
        all.holds("`cell`: 0 to 35", NeedleSentences::needleOfTheFirstAndTheLastCell);
        all.holds("`direction`: 0 to 7", NeedleSentences::needleToEachDirection);
        all.holds("Returns its previous direction.", NeedleSentences::needleReturnsThePreviousDirection);
        all.holds("Throws `IndexOutOfBoundsException` if there is no such cell", check -> {
            NeedleGrid grid = new NeedleGrid();
            check.noSuchBeyond(grid, "needle", 0, 35, cell -> grid.needle(cell, 0));
        });
        all.holds("Throws `IllegalArgumentException` if direction is out of range", check -> {
            NeedleGrid grid = new NeedleGrid();
            check.outOfRangeBeyond(grid, "needle", 0, 7, direction -> grid.needle(0, direction));
        });
    }

    private static void tellFriction(Sentences all) {
        all.in("Promise 3");
        all.holds("Changes the friction of a cell.", NeedleSentences::frictionCounts);
        all.holds("Undoable.", check -> {
            NeedleGrid grid = new NeedleGrid();
            check.undoable(grid, "friction", () -> grid.friction(35, 999));
            check.undoable(grid, "the same friction", () -> grid.friction(35, 10));
        });
        all.holds("`cell`: 0 to 35", NeedleSentences::frictionOfTheFirstAndTheLastCell);
        all.holds("`friction`: 0 to 999", NeedleSentences::theLeastAndTheMostFriction);
        all.holds("Returns the previous friction.", NeedleSentences::frictionReturnsThePreviousOne);
        all.holds("Throws `IndexOutOfBoundsException` if there is no such cell", check -> {
            NeedleGrid grid = new NeedleGrid();
            check.noSuchBeyond(grid, "friction", 0, 35, cell -> grid.friction(cell, 0));
        });
        all.holds("Throws `IllegalArgumentException` if friction is out of range", check -> {
            NeedleGrid grid = new NeedleGrid();
            check.outOfRangeBeyond(grid, "friction", 0, 999, friction -> grid.friction(0, friction));
        });
    }

    private static void tellHold(Sentences all) {
        all.in("Promise 4");
        all.holds("Holds a needle fast, or lets it go.", NeedleSentences::holdAndLetGo);
        all.holds("Undoable.", check -> {
            NeedleGrid grid = new NeedleGrid();
            check.undoable(grid, "hold", () -> grid.hold(35, true));
            check.undoable(grid, "hold of one let go", () -> grid.hold(35, false));
        });
        all.holds("`cell`: 0 to 35", NeedleSentences::holdOfTheFirstAndTheLastCell);
        all.holds("`isHeld`: whether it is held from now on", NeedleSentences::heldFromNowOn);
        all.holds("Returns 1 if it was, otherwise 0.", NeedleSentences::holdReturnsWhetherItWas);
        all.holds("Throws `IndexOutOfBoundsException` if there is no such cell", check -> {
            NeedleGrid grid = new NeedleGrid();
            check.noSuchBeyond(grid, "hold", 0, 35, cell -> grid.hold(cell, true));
            check.noSuchBeyond(grid, "hold", 0, 35, cell -> grid.hold(cell, false));
        });
    }

    private static void tellSwap(Sentences all) {
        all.in("Promise 5");
        all.holds("Swaps the needles of two cells: their directions, and their frictions",
                NeedleSentences::swapOfDirectionsAndFrictions);
        all.holds("(who is held fast stays so by the cell).", NeedleSentences::heldStaysByTheCell);
        all.holds("Undoable.", check -> {
            NeedleGrid grid = withTwoNeedles();
            check.undoable(grid, "swap", () -> grid.swap(0, 35));
            check.undoable(grid, "swap of a cell with itself", () -> grid.swap(35, 35));
        });
        all.holds("`cell`: 0 to 35", NeedleSentences::firstAndLastCellSwapped);
        all.holds("`other`: 0 to 35", NeedleSentences::swappedWithFirstAndLastCell);
        all.holds("Returns the direction that the first cell has then.", NeedleSentences::swapReturnsTheFirstCells);
        all.holds("Throws `IndexOutOfBoundsException` if there is no such cell", check -> {
            NeedleGrid grid = withTwoNeedles();
            check.noSuchBeyond(grid, "swap of none with one", 0, 35, cell -> grid.swap(cell, 0));
            check.noSuchBeyond(grid, "swap of one with none", 0, 35, other -> grid.swap(0, other));
            check.noSuchBeyond(grid, "swap of none with itself", 0, 35, cell -> grid.swap(cell, cell));
        });
    }

    private static void newObject(Check check) {
        NeedleGrid grid = new NeedleGrid();
        check.due("bars", grid.count(1), 0);
        check.due("no first bar", grid.barOf(0, 0), NeedleGrid.NONE);
        check.due("the buffer is empty, and so without an error", grid.firstError(), 0);
        check.due("length of the buffer", grid.clearBuffer(), 0);
        check.due("saved states", grid.count(8), 0);
        check.due("steps", grid.count(0), 0);
        grid.bar(0, 0, 50);
        grid.append('x');
        NeedleGrid other = new NeedleGrid();
        check.due("bars of another object", other.count(1), 0);
        check.due("the buffer of another object", other.clearBuffer(), 0);
    }

    private static void needleTurns(Check check) {
        NeedleGrid grid = new NeedleGrid();
        grid.needle(14, 2);
        check.due("its direction", grid.cell(14, 0), 2);
        check.due("all others are as they were", grid.pointing(6), 35);
        check.due("its neighbour sees it at once", grid.cell(13, 4), 100000 - 20 - 9 + 3);
        grid.hold(14, true);
        grid.needle(14, 0);
        check.due("the direction of a held one", grid.cell(14, 0), 0);
        check.due("it is held still", grid.cell(14, 2), 1);
        check.due("its neighbour sees that, too", grid.cell(13, 3), 100003);
    }

    private static void needleOfTheFirstAndTheLastCell(Check check) {
        NeedleGrid grid = new NeedleGrid();
        grid.needle(0, 1);
        check.due("the first", grid.cell(0, 0), 1);
        check.due("the last is as it was", grid.cell(35, 0), 6);
        grid.needle(35, 3);
        check.due("the last", grid.cell(35, 0), 3);
        check.due("all others are as they were", grid.pointing(6), 34);
    }

    private static void needleToEachDirection(Check check) {
        NeedleGrid grid = new NeedleGrid();
        for (int direction = 0; direction <= 7; direction++) {
            grid.needle(14, direction);
            check.due("direction", grid.cell(14, 0), direction);
        }
    }

    private static void needleReturnsThePreviousDirection(Check check) {
        NeedleGrid grid = new NeedleGrid();
        check.due("needle(14, 0)", grid.needle(14, 0), 6);
        check.due("needle(14, 7)", grid.needle(14, 7), 0);
        check.due("needle(14, 7) again", grid.needle(14, 7), 7);
        check.due("needle(14, 2)", grid.needle(14, 2), 7);
        check.due("another's", grid.needle(15, 2), 6);
    }

    private static void frictionCounts(Check check) {
        NeedleGrid grid = Scenes.earthAlone();
        grid.needle(14, 2);
        grid.needle(15, 2);
        grid.friction(14, 20);
        check.due("the field is not above it", grid.cell(14, 6), 0);
        check.due("another's is as it was", grid.cell(15, 6), 1);
        grid.friction(14, 19);
        check.due("the field is above it", grid.cell(14, 6), 1);
    }

    private static void frictionOfTheFirstAndTheLastCell(Check check) {
        NeedleGrid grid = new NeedleGrid();
        grid.friction(0, 1);
        grid.friction(35, 2);
        check.due("the first", grid.cell(0, 1), 1);
        check.due("the last", grid.cell(35, 1), 2);
        check.due("the second", grid.cell(1, 1), 10);
        check.due("the last but one", grid.cell(34, 1), 10);
    }

    private static void theLeastAndTheMostFriction(Check check) {
        NeedleGrid grid = Scenes.withoutField();
        grid.set(1, 20);
        grid.coil(50, 0);
        grid.friction(14, 999);
        check.due("the most", grid.cell(14, 1), 999);
        check.due("1000 is above it", grid.cell(14, 6), 1);
        grid.friction(14, 0);
        check.due("the least", grid.cell(14, 1), 0);
        grid.coil(0, 0);
        check.due("0 is not above it", grid.cell(14, 6), 0);
    }

    private static void frictionReturnsThePreviousOne(Check check) {
        NeedleGrid grid = new NeedleGrid();
        check.due("friction(14, 999)", grid.friction(14, 999), 10);
        check.due("friction(14, 0)", grid.friction(14, 0), 999);
        check.due("friction(14, 0) again", grid.friction(14, 0), 0);
        check.due("friction(14, 5)", grid.friction(14, 5), 0);
    }

    private static void holdAndLetGo(Check check) {
        NeedleGrid grid = Scenes.earthAlone();
        grid.needle(14, 2);
        grid.hold(14, true);
        check.due("a held one does not turn", grid.step(50), 0);
        grid.hold(14, false);
        check.due("one that is let go does", grid.step(50), 4);
    }

    private static void holdOfTheFirstAndTheLastCell(Check check) {
        NeedleGrid grid = new NeedleGrid();
        grid.hold(0, true);
        check.due("the first", grid.cell(0, 2), 1);
        check.due("the last is not", grid.cell(35, 2), 0);
        grid.hold(35, true);
        check.due("the last", grid.cell(35, 2), 1);
        check.due("held ones", grid.count(4), 2);
    }

    private static void heldFromNowOn(Check check) {
        NeedleGrid grid = new NeedleGrid();
        grid.hold(14, false);
        check.due("one that was not held", grid.cell(14, 2), 0);
        grid.hold(14, true);
        grid.hold(14, true);
        check.due("held twice", grid.cell(14, 2), 1);
        grid.hold(14, false);
        check.due("let go once", grid.cell(14, 2), 0);
    }

    private static void holdReturnsWhetherItWas(Check check) {
        NeedleGrid grid = new NeedleGrid();
        check.due("hold(14, false)", grid.hold(14, false), 0);
        check.due("hold(14, true)", grid.hold(14, true), 0);
        check.due("hold(14, true) again", grid.hold(14, true), 1);
        check.due("hold(14, false)", grid.hold(14, false), 1);
        check.due("hold(14, false) again", grid.hold(14, false), 0);
    }

    /** The first and the last cell's, of unlike directions and frictions; the first is held. */
    private static NeedleGrid withTwoNeedles() {
        NeedleGrid grid = new NeedleGrid();
        grid.needle(0, 1);
        grid.needle(35, 4);
        grid.friction(0, 999);
        grid.hold(0, true);
        return grid;
    }

    private static void swapOfDirectionsAndFrictions(Check check) {
        NeedleGrid grid = withTwoNeedles();
        grid.swap(0, 35);
        check.due("direction of the first", grid.cell(0, 0), 4);
        check.due("direction of the last", grid.cell(35, 0), 1);
        check.due("friction of the first", grid.cell(0, 1), 10);
        check.due("friction of the last", grid.cell(35, 1), 999);
        check.due("all others are as they were", grid.pointing(6), 34);
        check.due("x beside the first", grid.cell(1, 3), 100000 - 3);
        check.due("x beside the last", grid.cell(34, 3), 100000 + 3);
        grid.swap(35, 35);
        check.due("direction of one swapped with itself", grid.cell(35, 0), 1);
        check.due("friction of one swapped with itself", grid.cell(35, 1), 999);
    }

    private static void heldStaysByTheCell(Check check) {
        NeedleGrid grid = withTwoNeedles();
        grid.swap(0, 35);
        check.due("the first is held", grid.cell(0, 2), 1);
        check.due("the last is not", grid.cell(35, 2), 0);
        grid.swap(35, 0);
        check.due("the first is held, swapped again", grid.cell(0, 2), 1);
        check.due("the last is not, swapped again", grid.cell(35, 2), 0);
    }

    private static void firstAndLastCellSwapped(Check check) {
        NeedleGrid grid = withTwoNeedles();
        check.due("swap(0, 1)", grid.swap(0, 1), 6);
        check.due("the second", grid.cell(1, 0), 1);
        check.due("swap(35, 34)", grid.swap(35, 34), 6);
        check.due("the last but one", grid.cell(34, 0), 4);
    }

    private static void swappedWithFirstAndLastCell(Check check) {
        NeedleGrid grid = withTwoNeedles();
        check.due("swap(14, 0)", grid.swap(14, 0), 1);
        check.due("the first", grid.cell(0, 0), 6);
        check.due("swap(15, 35)", grid.swap(15, 35), 4);
        check.due("the last", grid.cell(35, 0), 6);
    }

    private static void swapReturnsTheFirstCells(Check check) {
        NeedleGrid grid = withTwoNeedles();
        check.due("swap(0, 35)", grid.swap(0, 35), 4);
        check.due("swap(0, 35) again", grid.swap(0, 35), 1);
        check.due("swap(35, 0)", grid.swap(35, 0), 1);
        check.due("swap(35, 35)", grid.swap(35, 35), 1);
        check.due("swap(0, 0)", grid.swap(0, 0), 4);
    }
}
