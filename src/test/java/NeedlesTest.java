/** Promises 1 to 5: a new object, needle, friction, hold, swap. */
public final class NeedlesTest {
    private static final Check CHECK = new Check();

    public static void main(String[] args) {
        newObject();
        needle();
        needleTurnsItsNeighbours();
        friction();
        frictionHoldsAWeakField();
        frictionHoldsTheWeakestFields();
        hold();
        swap();
        CHECK.end("NeedlesTest");
    }

    private static void newObject() {
        NeedleGrid grid = new NeedleGrid();
        for (int cell = 0; cell < 36; cell++) {
            CHECK.due("direction of " + cell, grid.cell(cell, 0), 6);
            CHECK.due("friction of " + cell, grid.cell(cell, 1), 10);
            CHECK.due("held " + cell, grid.cell(cell, 2), 0);
            CHECK.due("x at " + cell, grid.cell(cell, 3), 100000);
            CHECK.due("aim of " + cell, grid.cell(cell, 5), 6);
            CHECK.due("would turn " + cell, grid.cell(cell, 6), 0);
            CHECK.due("away " + cell, grid.cell(cell, 7), 0);
        }
        CHECK.due("y in a corner, two neighbours", grid.cell(0, 4), 100000 - 20 - 2 * 3);
        CHECK.due("y at an edge, three neighbours", grid.cell(3, 4), 100000 - 20 - 3 * 3);
        CHECK.due("y inside, four neighbours", grid.cell(14, 4), 100000 - 20 - 4 * 3);
        int[] counts = {0, 0, 0, 0, 0, 0, 36, 0, 0};
        for (int what = 0; what < counts.length; what++) {
            CHECK.due("count " + what, grid.count(what), counts[what]);
        }
        CHECK.due("the earth", grid.setting(0), 20);
        CHECK.due("a turn of the coil", grid.setting(1), 2);
        CHECK.due("neighbours", grid.setting(2), 3);
        CHECK.due("no bar", grid.barOf(0, 0), NeedleGrid.NONE);
        CHECK.due("no error in an empty buffer", grid.firstError(), 0);
        CHECK.due("an empty buffer", grid.clearBuffer(), 0);
        CHECK.due("at rest", grid.restsIn(), 0);
        CHECK.wrongState(grid, "undo of a new object", grid::undo);
        CHECK.due("a second object is another", new NeedleGrid().digest(), grid.digest());
    }

    private static void needle() {
        NeedleGrid grid = new NeedleGrid();
        CHECK.due("needle(35, 0)", grid.needle(35, 0), 6);
        CHECK.due("needle(35, 7)", grid.needle(35, 7), 0);
        CHECK.due("its direction", grid.cell(35, 0), 7);
        CHECK.due("saved states", grid.count(8), 2);
        grid.hold(0, true);
        CHECK.due("needle of a held cell", grid.needle(0, 3), 6);
        CHECK.due("its direction", grid.cell(0, 0), 3);
        CHECK.due("it is held still", grid.cell(0, 2), 1);
        CHECK.due("undo", grid.undo(), 3);
        CHECK.due("its direction again", grid.cell(0, 0), 6);
        CHECK.due("needle to where it points", grid.needle(0, 6), 6);
        CHECK.due("that is saved, too", grid.count(8), 4);
        int[] noCells = {-1, 36, Integer.MIN_VALUE, Integer.MAX_VALUE};
        for (int cell : noCells) {
            CHECK.noSuch(grid, "needle of cell " + cell, () -> grid.needle(cell, 0));
            CHECK.noSuch(grid, "needle, both wrong, of cell " + cell, () -> grid.needle(cell, 8));
        }
        int[] noDirections = {-1, 8, Integer.MIN_VALUE, Integer.MAX_VALUE};
        for (int direction : noDirections) {
            CHECK.outOfRange(grid, "needle to " + direction, () -> grid.needle(0, direction));
        }
    }

    private static void needleTurnsItsNeighbours() {
        int[] x = {3, 3, 0, -3, -3, -3, 0, 3};
        int[] y = {0, 3, 3, 3, 0, -3, -3, -3};
        int[] neighbours = {8, 13, 15, 20};
        for (int direction = 0; direction < 8; direction++) {
            NeedleGrid grid = new NeedleGrid();
            grid.needle(14, direction);
            for (int cell : neighbours) {
                CHECK.due("x beside direction " + direction, grid.cell(cell, 3), 100000 + x[direction]);
                CHECK.due("y beside direction " + direction, grid.cell(cell, 4), 100000 - 20 - 9 + y[direction]);
            }
            CHECK.due("x in the cell itself", grid.cell(14, 3), 100000);
            CHECK.due("y in the cell itself", grid.cell(14, 4), 99968);
            CHECK.due("y in a slanting cell", grid.cell(7, 4), 99968);
        }
        NeedleGrid edges = new NeedleGrid();
        edges.needle(5, 0);
        CHECK.due("rows do not go on: x at 6", edges.cell(6, 3), 100000);
        CHECK.due("x at 4", edges.cell(4, 3), 100003);
        CHECK.due("x at 11", edges.cell(11, 3), 100003);
    }

    private static void friction() {
        NeedleGrid grid = new NeedleGrid();
        CHECK.due("friction(3, 999)", grid.friction(3, 999), 10);
        CHECK.due("friction(3, 0)", grid.friction(3, 0), 999);
        CHECK.due("its friction", grid.cell(3, 1), 0);
        CHECK.due("another's friction", grid.cell(4, 1), 10);
        CHECK.due("friction(3, 0) again", grid.friction(3, 0), 0);
        CHECK.due("saved states", grid.count(8), 3);
        grid.undo();
        grid.undo();
        CHECK.due("behind undo", grid.cell(3, 1), 999);
        CHECK.noSuch(grid, "friction(-1, 0)", () -> grid.friction(-1, 0));
        CHECK.noSuch(grid, "friction(36, 1000)", () -> grid.friction(36, 1000));
        CHECK.outOfRange(grid, "friction(0, 1000)", () -> grid.friction(0, 1000));
        CHECK.outOfRange(grid, "friction(0, -1)", () -> grid.friction(0, -1));
    }

    private static void frictionHoldsAWeakField() {
        NeedleGrid grid = new NeedleGrid();
        grid.needle(14, 0);
        grid.friction(14, 32);
        CHECK.due("a field of 32 is not above 32", grid.cell(14, 6), 0);
        grid.friction(14, 31);
        CHECK.due("it is above 31", grid.cell(14, 6), 1);
        grid.needle(13, 0);
        CHECK.due("x and y together: x", grid.cell(14, 3), 100003);
        CHECK.due("x and y together: y", grid.cell(14, 4), 100000 - 29);
        CHECK.due("3 and 29 are above 31", grid.cell(14, 6), 1);
        grid.friction(14, 32);
        CHECK.due("but not above 32", grid.cell(14, 6), 0);
    }

    /** The weakest fields, by the coil alone, of 1 or of 1 and 1. */
    private static void frictionHoldsTheWeakestFields() {
        for (int direction = 0; direction < 8; direction++) {
            NeedleGrid grid = new NeedleGrid();
            grid.set(0, 0);
            grid.set(1, 1);
            grid.set(2, 0);
            grid.coil(1, direction);
            grid.needle(14, (direction + 2) % 8);
            int size = 1 + direction % 2;
            grid.friction(14, size);
            CHECK.due("a field of " + size + " to " + direction + " is held", grid.cell(14, 6), 0);
            grid.friction(14, size - 1);
            CHECK.due("a field of " + size + " to " + direction + " turns", grid.cell(14, 6), 1);
        }
    }

    private static void hold() {
        NeedleGrid grid = new NeedleGrid();
        grid.needle(20, 2);
        CHECK.due("it would turn", grid.cell(20, 6), 1);
        CHECK.due("hold(20, true)", grid.hold(20, true), 0);
        CHECK.due("hold(20, true) again", grid.hold(20, true), 1);
        CHECK.due("it is held", grid.cell(20, 2), 1);
        CHECK.due("held ones", grid.count(4), 1);
        CHECK.due("it would not turn", grid.cell(20, 6), 0);
        CHECK.due("but it has an aim", grid.cell(20, 5), 6);
        CHECK.due("and is away from it", grid.cell(20, 7), 4);
        grid.step(5);
        CHECK.due("it has not turned", grid.cell(20, 0), 2);
        CHECK.due("hold(20, false)", grid.hold(20, false), 1);
        CHECK.due("hold(20, false) again", grid.hold(20, false), 0);
        CHECK.due("saved states", grid.count(8), 6);
        grid.undo();
        grid.undo();
        CHECK.due("held behind undo", grid.cell(20, 2), 1);
        CHECK.noSuch(grid, "hold(36, true)", () -> grid.hold(36, true));
        CHECK.noSuch(grid, "hold(-1, false)", () -> grid.hold(-1, false));
    }

    private static void swap() {
        NeedleGrid grid = new NeedleGrid();
        grid.needle(2, 1);
        grid.needle(30, 4);
        grid.friction(2, 77);
        grid.hold(2, true);
        CHECK.due("swap(2, 30)", grid.swap(2, 30), 4);
        CHECK.due("direction of 2", grid.cell(2, 0), 4);
        CHECK.due("direction of 30", grid.cell(30, 0), 1);
        CHECK.due("friction of 2", grid.cell(2, 1), 10);
        CHECK.due("friction of 30", grid.cell(30, 1), 77);
        CHECK.due("2 is held still", grid.cell(2, 2), 1);
        CHECK.due("30 is not", grid.cell(30, 2), 0);
        CHECK.due("x beside 2", grid.cell(1, 3), 100000 - 3);
        CHECK.due("x beside 30", grid.cell(31, 3), 100000 + 3);
        CHECK.due("swap of a cell with itself", grid.swap(30, 30), 1);
        CHECK.due("that is saved, too", grid.count(8), 6);
        grid.undo();
        grid.undo();
        CHECK.due("2 behind undo", grid.cell(2, 0), 1);
        CHECK.due("friction behind undo", grid.cell(2, 1), 77);
        CHECK.due("x beside 2 behind undo", grid.cell(1, 3), 100000 + 3);
        CHECK.noSuch(grid, "swap(36, 0)", () -> grid.swap(36, 0));
        CHECK.noSuch(grid, "swap(0, 36)", () -> grid.swap(0, 36));
        CHECK.noSuch(grid, "swap(-1, 0)", () -> grid.swap(-1, 0));
        CHECK.noSuch(grid, "swap(0, -1)", () -> grid.swap(0, -1));
    }
}
