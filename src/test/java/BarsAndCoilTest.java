/** Promises 6 to 10: bar, unbar, coil, set, step; and the field and the turning that they are about. */
public final class BarsAndCoilTest {
    private static final Check CHECK = new Check();

    public static void main(String[] args) {
        bar();
        sixBars();
        straightBarsField();
        slantingBarsField();
        unbar();
        coil();
        coilsField();
        set();
        step();
        aims();
        turnsTheShorterWay();
        turnsAllAtTheSameTime();
        CHECK.end("BarsAndCoilTest");
    }

    /** A grid whose field comes from bars and the coil alone. */
    private static NeedleGrid emptyField() {
        NeedleGrid grid = new NeedleGrid();
        grid.set(0, 0);
        grid.set(2, 0);
        return grid;
    }

    private static void fieldDue(NeedleGrid grid, int cell, int x, int y) {
        CHECK.due("x at " + cell, grid.cell(cell, 3), 100000 + x);
        CHECK.due("y at " + cell, grid.cell(cell, 4), 100000 + y);
    }

    private static void bar() {
        NeedleGrid grid = new NeedleGrid();
        CHECK.due("bar(10, 0, 1)", grid.bar(10, 0, 1), 1);
        CHECK.due("bar(4, 7, 50)", grid.bar(4, 7, 50), 2);
        CHECK.due("in place of one", grid.bar(10, 3, 9), 2);
        CHECK.due("its direction", grid.barOf(1, 1), 3);
        CHECK.due("its strength", grid.barOf(1, 2), 9);
        CHECK.due("the needle there is the same", grid.cell(10, 0), 6);
        CHECK.due("saved states", grid.count(8), 3);
        CHECK.due("undo", grid.undo(), 2);
        CHECK.due("its direction behind undo", grid.barOf(1, 1), 0);
        CHECK.noSuch(grid, "bar(36, 0, 1)", () -> grid.bar(36, 0, 1));
        CHECK.noSuch(grid, "bar(-1, 8, 51)", () -> grid.bar(-1, 8, 51));
        CHECK.outOfRange(grid, "bar(0, 8, 1)", () -> grid.bar(0, 8, 1));
        CHECK.outOfRange(grid, "bar(0, -1, 1)", () -> grid.bar(0, -1, 1));
        CHECK.outOfRange(grid, "bar(0, 0, 0)", () -> grid.bar(0, 0, 0));
        CHECK.outOfRange(grid, "bar(0, 0, 51)", () -> grid.bar(0, 0, 51));
    }

    private static void sixBars() {
        NeedleGrid grid = new NeedleGrid();
        for (int cell = 0; cell < 6; cell++) {
            CHECK.due("bar in " + cell, grid.bar(cell, 0, 5), cell + 1);
        }
        CHECK.wrongState(grid, "a seventh bar", () -> grid.bar(6, 0, 5));
        CHECK.outOfRange(grid, "a seventh bar of strength 0", () -> grid.bar(6, 0, 0));
        CHECK.noSuch(grid, "a seventh bar nowhere", () -> grid.bar(36, 0, 5));
        CHECK.due("in place of the last", grid.bar(5, 4, 50), 6);
        CHECK.due("unbar", grid.unbar(0), 5);
        CHECK.due("a sixth again", grid.bar(6, 0, 5), 6);
    }

    private static void straightBarsField() {
        NeedleGrid grid = emptyField();
        grid.bar(14, 0, 1);
        fieldDue(grid, 14, 0, 0);
        fieldDue(grid, 15, 100, 0);
        fieldDue(grid, 13, 100, 0);
        fieldDue(grid, 16, 25, 0);
        fieldDue(grid, 17, 11, 0);
        fieldDue(grid, 8, -50, 0);
        fieldDue(grid, 20, -50, 0);
        fieldDue(grid, 26, -12, 0);
        fieldDue(grid, 32, -5, 0);
        fieldDue(grid, 7, 50, 0);
        fieldDue(grid, 21, 50, 0);
        fieldDue(grid, 27, -10, 0);
        fieldDue(grid, 22, 20, 0);
        grid.bar(14, 6, 1);
        fieldDue(grid, 15, 0, 50);
        fieldDue(grid, 8, 0, -100);
        fieldDue(grid, 20, 0, -100);
        fieldDue(grid, 7, 0, -50);
        fieldDue(grid, 32, 0, -11);
        fieldDue(grid, 17, 0, 5);
        grid.bar(15, 0, 2);
        fieldDue(grid, 14, 200, 0);
        fieldDue(grid, 16, 200, 12);
    }

    private static void slantingBarsField() {
        NeedleGrid grid = emptyField();
        grid.bar(14, 1, 1);
        fieldDue(grid, 15, 100, 100);
        fieldDue(grid, 20, 100, 100);
        fieldDue(grid, 21, 50, 50);
        fieldDue(grid, 7, 50, 50);
        fieldDue(grid, 9, -25, -25);
        fieldDue(grid, 19, -25, -25);
        fieldDue(grid, 22, 20, 20);
        fieldDue(grid, 10, -10, -10);
        fieldDue(grid, 35, 5, 5);
        grid.bar(14, 3, 1);
        fieldDue(grid, 9, -50, 50);
        fieldDue(grid, 19, -50, 50);
        fieldDue(grid, 21, 25, -25);
        fieldDue(grid, 22, 10, -10);
        fieldDue(grid, 10, -20, 20);
    }

    private static void unbar() {
        NeedleGrid grid = emptyField();
        grid.bar(14, 0, 10);
        grid.bar(35, 0, 10);
        CHECK.due("unbar(14)", grid.unbar(14), 1);
        CHECK.due("the one that is left", grid.barOf(0, 0), 35);
        CHECK.due("unbar(35)", grid.unbar(35), 0);
        fieldDue(grid, 15, 0, 0);
        CHECK.due("saved states", grid.count(8), 6);
        grid.undo();
        CHECK.due("bars behind undo", grid.count(1), 1);
        CHECK.noSuch(grid, "unbar(36)", () -> grid.unbar(36));
        CHECK.noSuch(grid, "unbar(-1)", () -> grid.unbar(-1));
        CHECK.wrongState(grid, "unbar(14) without one", () -> grid.unbar(14));
    }

    private static void coil() {
        NeedleGrid grid = new NeedleGrid();
        CHECK.due("coil(50, 7)", grid.coil(50, 7), 0);
        CHECK.due("coil(0, 0)", grid.coil(0, 0), 50);
        CHECK.due("coil(3, 2)", grid.coil(3, 2), 0);
        CHECK.due("turns", grid.count(2), 3);
        CHECK.due("direction", grid.count(3), 2);
        CHECK.due("saved states", grid.count(8), 3);
        grid.undo();
        grid.undo();
        CHECK.due("turns behind undo", grid.count(2), 50);
        CHECK.due("direction behind undo", grid.count(3), 7);
        CHECK.outOfRange(grid, "coil(51, 0)", () -> grid.coil(51, 0));
        CHECK.outOfRange(grid, "coil(-1, 0)", () -> grid.coil(-1, 0));
        CHECK.outOfRange(grid, "coil(0, 8)", () -> grid.coil(0, 8));
        CHECK.outOfRange(grid, "coil(0, -1)", () -> grid.coil(0, -1));
    }

    private static void coilsField() {
        NeedleGrid grid = emptyField();
        grid.coil(7, 3);
        fieldDue(grid, 0, -14, 14);
        fieldDue(grid, 35, -14, 14);
        grid.set(1, 20);
        fieldDue(grid, 0, -140, 140);
        grid.coil(50, 4);
        fieldDue(grid, 17, -1000, 0);
        grid.set(0, 200);
        fieldDue(grid, 17, -1000, -200);
        grid.set(1, 0);
        fieldDue(grid, 17, 0, -200);
    }

    private static void set() {
        NeedleGrid grid = new NeedleGrid();
        CHECK.due("set(0, 200)", grid.set(0, 200), 20);
        CHECK.due("set(1, 20)", grid.set(1, 20), 2);
        CHECK.due("set(2, 50)", grid.set(2, 50), 3);
        CHECK.due("y of the field", grid.cell(14, 4), 100000 - 200 - 4 * 50);
        CHECK.due("set(0, 0)", grid.set(0, 0), 200);
        CHECK.due("set(1, 0)", grid.set(1, 0), 20);
        CHECK.due("set(2, 0)", grid.set(2, 0), 50);
        CHECK.due("saved states", grid.count(8), 6);
        CHECK.due("no field: no aim", grid.cell(14, 5), NeedleGrid.NONE);
        grid.undo();
        CHECK.due("setting behind undo", grid.setting(2), 50);
        CHECK.due("y behind undo", grid.cell(14, 4), 100000 - 4 * 50);
        CHECK.noSuch(grid, "set(3, 0)", () -> grid.set(3, 0));
        CHECK.noSuch(grid, "set(-1, 999)", () -> grid.set(-1, 999));
        CHECK.outOfRange(grid, "set(0, 201)", () -> grid.set(0, 201));
        CHECK.outOfRange(grid, "set(1, 21)", () -> grid.set(1, 21));
        CHECK.outOfRange(grid, "set(2, 51)", () -> grid.set(2, 51));
        for (int setting = 0; setting < 3; setting++) {
            int wanted = setting;
            CHECK.outOfRange(grid, "set(" + setting + ", -1)", () -> grid.set(wanted, -1));
        }
    }

    private static void step() {
        NeedleGrid grid = new NeedleGrid();
        grid.needle(14, 2);
        CHECK.due("step(1)", grid.step(1), 1);
        CHECK.due("opposite: to the next greater", grid.cell(14, 0), 3);
        CHECK.due("steps so far", grid.count(0), 1);
        CHECK.due("step(50)", grid.step(50), 3);
        CHECK.due("it has come to its aim", grid.cell(14, 0), 6);
        CHECK.due("steps so far, at rest, too", grid.count(0), 51);
        CHECK.due("saved states, one for each call", grid.count(8), 3);
        CHECK.due("step(1) at rest", grid.step(1), 0);
        CHECK.due("that is saved, too", grid.count(8), 4);
        grid.undo();
        grid.undo();
        CHECK.due("steps behind undo", grid.count(0), 1);
        CHECK.due("direction behind undo", grid.cell(14, 0), 3);
        CHECK.outOfRange(grid, "step(0)", () -> grid.step(0));
        CHECK.outOfRange(grid, "step(51)", () -> grid.step(51));
        CHECK.outOfRange(grid, "step(-1)", () -> grid.step(-1));
    }

    private static void aimDue(int earth, int turns, int direction, int want) {
        NeedleGrid grid = emptyField();
        grid.set(0, earth);
        grid.set(1, 1);
        grid.coil(turns, direction);
        CHECK.due("aim with the earth " + earth + ", coil " + turns + " to " + direction, grid.cell(21, 5), want);
    }

    /** The edges 5 to 12 between straight and slanting aims, by the coil to a side and the earth up. */
    private static void aims() {
        aimDue(5, 12, 0, 0);
        aimDue(6, 14, 0, 7);
        aimDue(5, 12, 4, 4);
        aimDue(6, 14, 4, 5);
        aimDue(12, 5, 0, 6);
        aimDue(14, 6, 0, 7);
        aimDue(12, 5, 4, 6);
        aimDue(14, 6, 4, 5);
        aimDue(0, 1, 0, 0);
        aimDue(0, 1, 1, 1);
        aimDue(0, 1, 2, 2);
        aimDue(0, 1, 3, 3);
        aimDue(0, 1, 4, 4);
        aimDue(0, 1, 5, 5);
        aimDue(0, 1, 6, 6);
        aimDue(0, 1, 7, 7);
        aimDue(7, 7, 2, NeedleGrid.NONE);
        aimDue(0, 0, 0, NeedleGrid.NONE);
        aimDue(7, 12, 1, 0);
        aimDue(6, 12, 1, 1);
        aimDue(7, 12, 3, 4);
        aimDue(6, 12, 3, 3);
    }

    private static void turnsTheShorterWay() {
        for (int aim = 0; aim < 8; aim++) {
            for (int direction = 0; direction < 8; direction++) {
                NeedleGrid grid = emptyField();
                grid.coil(50, aim);
                grid.needle(9, direction);
                int ahead = Math.floorMod(aim - direction, 8);
                int want = ahead == 0 ? direction : Math.floorMod(direction + (ahead <= 4 ? 1 : -1), 8);
                String turning = "from " + direction + " towards " + aim;
                CHECK.due("away " + turning, grid.cell(9, 7), Math.min(ahead, 8 - ahead));
                CHECK.due("would turn " + turning, grid.cell(9, 6), ahead == 0 ? 0 : 1);
                grid.step(1);
                CHECK.due("turned " + turning, grid.cell(9, 0), want);
            }
        }
    }

    private static void turnsAllAtTheSameTime() {
        NeedleGrid grid = Scenes.follower();
        CHECK.due("the first step turns the leader only", grid.step(1), 1);
        CHECK.due("the leader", grid.cell(0, 0), 1);
        CHECK.due("the follower saw it ahead of the step", grid.cell(1, 0), 0);
        CHECK.due("the second step turns the follower", grid.step(1), 1);
        CHECK.due("the follower", grid.cell(1, 0), 1);
        NeedleGrid swinging = Scenes.swinging();
        CHECK.due("two needles that swing", swinging.step(50), 100);
        CHECK.due("the first is where it was", swinging.cell(7, 0), 0);
        CHECK.due("the second is where it was", swinging.cell(8, 0), 1);
        CHECK.due("one step more", swinging.step(1), 2);
        CHECK.due("the first", swinging.cell(7, 0), 1);
        CHECK.due("the second", swinging.cell(8, 0), 0);
    }
}
