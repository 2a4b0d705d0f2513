/** Promises 16 to 20: cell, barOf, count, pointing, setting. */
public final class LooksTest {
    private static final Check CHECK = new Check();
    private static final int[] NO_CELLS = {-1, 36, Integer.MIN_VALUE, Integer.MAX_VALUE};

    public static void main(String[] args) {
        cell();
        barOf();
        count();
        countFromTheFirstCellToTheLast();
        pointing();
        setting();
        changeNothing();
        CHECK.end("LooksTest");
    }

    private static void cell() {
        NeedleGrid grid = new NeedleGrid();
        grid.needle(14, 1);
        grid.friction(14, 31);
        int[] free = {1, 31, 0, 100000, 99968, 6, 1, 3};
        int[] held = {1, 31, 1, 100000, 99968, 6, 0, 3};
        for (int what = 0; what < 8; what++) {
            CHECK.due("cell(14, " + what + ")", grid.cell(14, what), free[what]);
        }
        grid.hold(14, true);
        for (int what = 0; what < 8; what++) {
            CHECK.due("cell(14, " + what + ") held", grid.cell(14, what), held[what]);
        }
        grid.set(0, 0);
        grid.set(2, 0);
        int[] aimless = {1, 31, 1, 100000, 100000, NeedleGrid.NONE, 0, NeedleGrid.NONE};
        for (int what = 0; what < 8; what++) {
            CHECK.due("cell(14, " + what + ") without a field", grid.cell(14, what), aimless[what]);
        }
        grid.hold(14, false);
        grid.friction(14, 0);
        CHECK.due("no aim, no turn", grid.cell(14, 6), 0);
        for (int wrong : NO_CELLS) {
            CHECK.noSuch(grid, "cell(" + wrong + ", 0)", () -> grid.cell(wrong, 0));
            CHECK.noSuch(grid, "cell(" + wrong + ", 8)", () -> grid.cell(wrong, 8));
        }
        CHECK.outOfRange(grid, "cell(0, 8)", () -> grid.cell(0, 8));
        CHECK.outOfRange(grid, "cell(0, -1)", () -> grid.cell(0, -1));
    }

    private static void barOf() {
        NeedleGrid grid = new NeedleGrid();
        grid.bar(20, 5, 50);
        grid.bar(3, 7, 1);
        grid.bar(35, 0, 9);
        int[][] due = {{3, 7, 1}, {20, 5, 50}, {35, 0, 9}, {-1, -1, -1}};
        for (int place = 0; place < due.length; place++) {
            for (int what = 0; what < 3; what++) {
                CHECK.due("barOf(" + place + ", " + what + ")", grid.barOf(place, what), due[place][what]);
            }
        }
        CHECK.due("barOf(6, 2)", grid.barOf(6, 2), NeedleGrid.NONE);
        CHECK.due("barOf far behind", grid.barOf(Integer.MAX_VALUE, 0), NeedleGrid.NONE);
        CHECK.outOfRange(grid, "barOf(-1, 0)", () -> grid.barOf(-1, 0));
        CHECK.outOfRange(grid, "barOf(0, 3)", () -> grid.barOf(0, 3));
        CHECK.outOfRange(grid, "barOf(0, -1)", () -> grid.barOf(0, -1));
        CHECK.outOfRange(grid, "barOf(9, 3)", () -> grid.barOf(9, 3));
    }

    private static void count() {
        NeedleGrid grid = new NeedleGrid();
        grid.set(2, 0);
        grid.coil(4, 3);
        grid.coil(0, 5);
        grid.bar(14, 6, 1);
        grid.needle(0, 0);
        grid.needle(1, 2);
        grid.friction(1, 500);
        grid.hold(2, true);
        grid.hold(3, true);
        grid.needle(3, 3);
        CHECK.due("steps", grid.count(0), 0);
        CHECK.due("bars", grid.count(1), 1);
        CHECK.due("turns", grid.count(2), 0);
        CHECK.due("coil's direction", grid.count(3), 5);
        CHECK.due("held", grid.count(4), 2);
        CHECK.due("saved", grid.count(8), 6);
        grid.unbar(14);
        CHECK.due("would turn: 0, for 1 is rubbed and 3 is held", grid.count(5), 1);
        CHECK.due("point to their aim", grid.count(6), 33);
        CHECK.due("away together", grid.count(7), 2 + 4 + 3);
        grid.set(0, 0);
        CHECK.due("would turn without a field", grid.count(5), 0);
        CHECK.due("point to no aim", grid.count(6), 0);
        CHECK.due("away from no aim", grid.count(7), 0);
        grid.bar(0, 6, 50);
        CHECK.due("all aim but the one in the bar's cell", grid.count(6) > 0, true);
        grid.step(7);
        CHECK.due("steps", grid.count(0), 7);
        CHECK.outOfRange(grid, "count(9)", () -> grid.count(9));
        CHECK.outOfRange(grid, "count(-1)", () -> grid.count(-1));
        CHECK.outOfRange(grid, "count of the least", () -> grid.count(Integer.MIN_VALUE));
    }

    private static void countFromTheFirstCellToTheLast() {
        for (int cell = 0; cell < 36; cell += 35) {
            NeedleGrid grid = new NeedleGrid();
            grid.needle(cell, 3);
            CHECK.due("would turn: " + cell, grid.count(5), 1);
            CHECK.due("point to their aim, but " + cell, grid.count(6), 35);
            CHECK.due("away: " + cell, grid.count(7), 3);
            CHECK.due("pointing: " + cell, grid.pointing(3), 1);
            grid.hold(cell, true);
            CHECK.due("held: " + cell, grid.count(4), 1);
            grid.bar(cell, 1, 1);
            CHECK.due("bars: " + cell, grid.count(1), 1);
            CHECK.due("the bar's cell", grid.barOf(0, 0), cell);
        }
    }

    private static void pointing() {
        NeedleGrid grid = new NeedleGrid();
        CHECK.due("pointing(6)", grid.pointing(6), 36);
        grid.needle(0, 0);
        grid.needle(1, 0);
        grid.needle(35, 7);
        grid.hold(35, true);
        int[] due = {2, 0, 0, 0, 0, 0, 33, 1};
        for (int direction = 0; direction < 8; direction++) {
            CHECK.due("pointing(" + direction + ")", grid.pointing(direction), due[direction]);
        }
        CHECK.outOfRange(grid, "pointing(8)", () -> grid.pointing(8));
        CHECK.outOfRange(grid, "pointing(-1)", () -> grid.pointing(-1));
    }

    private static void setting() {
        NeedleGrid grid = new NeedleGrid();
        grid.set(0, 111);
        grid.set(1, 11);
        grid.set(2, 44);
        CHECK.due("setting(0)", grid.setting(0), 111);
        CHECK.due("setting(1)", grid.setting(1), 11);
        CHECK.due("setting(2)", grid.setting(2), 44);
        CHECK.noSuch(grid, "setting(3)", () -> grid.setting(3));
        CHECK.noSuch(grid, "setting(-1)", () -> grid.setting(-1));
    }

    private static void changeNothing() {
        NeedleGrid grid = new NeedleGrid();
        grid.bar(14, 0, 20);
        Check.type(grid, "00a");
        long before = grid.digest();
        grid.cell(14, 6);
        grid.barOf(0, 0);
        grid.count(5);
        grid.pointing(6);
        grid.setting(0);
        grid.firstError();
        grid.restsIn();
        grid.points(14, 100);
        grid.ifBar(3, 3, 3);
        grid.bestBar(3, 3, 3);
        grid.leastTurns(3);
        grid.obedience();
        CHECK.due("digest behind all the looks", grid.digest(), before);
        CHECK.due("no step went by", grid.count(0), 0);
        CHECK.due("nothing was saved", grid.count(8), 1);
    }
}
