/** Promises 21 to 27: restsIn, points, ifBar, bestBar, leastTurns, obedience, digest. */
public final class WhatWouldBeTest {
    private static final Check CHECK = new Check();

    public static void main(String[] args) {
        restsIn();
        restsInAHundred();
        points();
        ifBar();
        ifBarInPlaceOfAnother();
        bestBar();
        bestBarAtTheEdge();
        nothingIsLeftOfABarTakenAway();
        bestBarOfOthers();
        leastTurns();
        obedience();
        digest();
        CHECK.end("WhatWouldBeTest");
    }

    private static NeedleGrid emptyField() {
        NeedleGrid grid = new NeedleGrid();
        grid.set(0, 0);
        grid.set(2, 0);
        return grid;
    }

    private static void restsIn() {
        NeedleGrid grid = new NeedleGrid();
        CHECK.due("at rest", grid.restsIn(), 0);
        grid.needle(14, 2);
        CHECK.due("four turns", grid.restsIn(), 4);
        grid.needle(30, 7);
        CHECK.due("the longest counts", grid.restsIn(), 4);
        grid.hold(14, true);
        CHECK.due("held ones do not", grid.restsIn(), 1);
        CHECK.due("no step went by", grid.count(0), 0);
        NeedleGrid follower = Scenes.follower();
        CHECK.due("one behind the other", follower.restsIn(), 2);
        NeedleGrid swinging = Scenes.swinging();
        CHECK.due("swings for ever", swinging.restsIn(), NeedleGrid.NONE);
        swinging.hold(7, true);
        CHECK.due("one held", swinging.restsIn(), 1);
    }

    private static void restsInAHundred() {
        NeedleGrid grid = Scenes.restsBehind101();
        CHECK.due("101 steps are too many", grid.restsIn(), NeedleGrid.NONE);
        grid.step(1);
        CHECK.due("100 are not", grid.restsIn(), 100);
        grid.step(50);
        CHECK.due("half of them", grid.restsIn(), 50);
        grid.step(49);
        CHECK.due("needles that would turn", grid.count(5) > 0, true);
        CHECK.due("the last one", grid.restsIn(), 1);
        grid.step(1);
        CHECK.due("at rest", grid.restsIn(), 0);
        CHECK.due("no needle would turn", grid.count(5), 0);
    }

    private static void points() {
        NeedleGrid grid = new NeedleGrid();
        grid.needle(14, 2);
        int[] due = {2, 3, 4, 5, 6, 6};
        for (int steps = 0; steps < due.length; steps++) {
            CHECK.due("points(14, " + steps + ")", grid.points(14, steps), due[steps]);
        }
        CHECK.due("points(14, 100)", grid.points(14, 100), 6);
        CHECK.due("it stays", grid.cell(14, 0), 2);
        NeedleGrid swinging = Scenes.swinging();
        CHECK.due("behind 99 steps", swinging.points(7, 99), 1);
        CHECK.due("behind 100 steps", swinging.points(7, 100), 0);
        CHECK.due("another cell", swinging.points(8, 100), 1);
        CHECK.noSuch(grid, "points(36, 0)", () -> grid.points(36, 0));
        CHECK.noSuch(grid, "points(-1, 101)", () -> grid.points(-1, 101));
        CHECK.outOfRange(grid, "points(0, 101)", () -> grid.points(0, 101));
        CHECK.outOfRange(grid, "points(0, -1)", () -> grid.points(0, -1));
    }

    private static void ifBar() {
        NeedleGrid grid = emptyField();
        CHECK.due("all but its own cell get an aim", grid.ifBar(14, 0, 50), 35);
        CHECK.due("a corner's bar reaches the far corner", grid.ifBar(0, 1, 1), 35);
        grid.set(2, 3);
        grid.set(0, 200);
        CHECK.due("a weak bar turns no aim of a strong earth", grid.ifBar(0, 6, 1), 0);
        CHECK.due("nothing was laid", grid.count(1), 0);
        CHECK.due("nothing was saved", grid.count(8), 4);
        CHECK.noSuch(grid, "ifBar(36, 8, 0)", () -> grid.ifBar(36, 8, 0));
        CHECK.noSuch(grid, "ifBar(-1, 0, 1)", () -> grid.ifBar(-1, 0, 1));
        CHECK.outOfRange(grid, "ifBar(0, 8, 1)", () -> grid.ifBar(0, 8, 1));
        CHECK.outOfRange(grid, "ifBar(0, -1, 1)", () -> grid.ifBar(0, -1, 1));
        CHECK.outOfRange(grid, "ifBar(0, 0, 0)", () -> grid.ifBar(0, 0, 0));
        CHECK.outOfRange(grid, "ifBar(0, 0, 51)", () -> grid.ifBar(0, 0, 51));
    }

    private static void ifBarInPlaceOfAnother() {
        NeedleGrid grid = emptyField();
        grid.bar(14, 0, 20);
        CHECK.due("the same bar again", grid.ifBar(14, 0, 20), 0);
        CHECK.due("a weaker one, the same way", grid.ifBar(14, 0, 1), 0);
        CHECK.due("the other way round", grid.ifBar(14, 4, 20), 35);
        for (int cell = 0; cell < 5; cell++) {
            grid.bar(cell, 2, 10);
        }
        CHECK.due("six bars", grid.count(1), 6);
        CHECK.due("a seventh would matter all the same", grid.ifBar(35, 5, 50) > 0, true);
        CHECK.due("six bars still", grid.count(1), 6);
    }

    private static void bestBar() {
        NeedleGrid grid = emptyField();
        CHECK.due("aim 0: along, from the corner", grid.bestBar(1, 0, 1), 0);
        CHECK.due("aim 4 in the corner: beside it, by the bar at 1 to 4", grid.bestBar(0, 4, 1), 8 + 4);
        CHECK.due("aim 6 at 1: the bar at 0 to 2 lies beside", grid.bestBar(1, 6, 1), 2);
        CHECK.due("nothing was laid", grid.count(1), 0);
        CHECK.due("its own aim: any bar in the cell 0 that does not change it",
                new NeedleGrid().bestBar(0, 6, 50), 0);
        grid.set(0, 200);
        CHECK.due("no bar of strength 1 beats the earth so", grid.bestBar(20, 2, 1), NeedleGrid.NONE);
        CHECK.noSuch(grid, "bestBar(36, 8, 0)", () -> grid.bestBar(36, 8, 0));
        CHECK.noSuch(grid, "bestBar(-1, 0, 1)", () -> grid.bestBar(-1, 0, 1));
        CHECK.outOfRange(grid, "bestBar(0, 8, 1)", () -> grid.bestBar(0, 8, 1));
        CHECK.outOfRange(grid, "bestBar(0, -1, 1)", () -> grid.bestBar(0, -1, 1));
        CHECK.outOfRange(grid, "bestBar(0, 0, 0)", () -> grid.bestBar(0, 0, 0));
        CHECK.outOfRange(grid, "bestBar(0, 0, 51)", () -> grid.bestBar(0, 0, 51));
    }

    /** At the cell 20 the bar at 0 to 4 adds 115 of 230 with strength 30, and 111 of 223 with 29. */
    private static void bestBarAtTheEdge() {
        NeedleGrid grid = emptyField();
        grid.set(0, 47);
        CHECK.due("12 * 47 is at most 5 * 115", grid.bestBar(20, 0, 30), 4);
        CHECK.due("it is above 5 * 111", grid.bestBar(20, 0, 29), 8 + 4);
        grid.set(0, 48);
        CHECK.due("12 * 48 is above 5 * 115", grid.bestBar(20, 0, 30), 8 + 4);
    }

    private static void nothingIsLeftOfABarTakenAway() {
        NeedleGrid grid = emptyField();
        grid.bar(20, 3, 50);
        grid.unbar(20);
        NeedleGrid without = emptyField();
        without.needle(0, 6);
        without.needle(0, 6);
        CHECK.due("ifBar where one lay", grid.ifBar(20, 0, 1), without.ifBar(20, 0, 1));
        CHECK.due("bestBar where one lay", grid.bestBar(21, 0, 1), without.bestBar(21, 0, 1));
        CHECK.due("digest where one lay", grid.digest(), without.digest());
    }

    /** The answer is the first bar that, when it is really laid, gives the aim. */
    private static void bestBarOfOthers() {
        for (int direction = 0; direction < 8; direction++) {
            NeedleGrid grid = emptyField();
            grid.set(0, 30);
            grid.bar(0, 3, 50);
            grid.bar(21, 6, 40);
            int want = NeedleGrid.NONE;
            for (int number = 0; number < 288 && want == NeedleGrid.NONE; number++) {
                NeedleGrid laid = emptyField();
                laid.set(0, 30);
                laid.bar(0, 3, 50);
                laid.bar(21, 6, 40);
                laid.bar(number / 8, number % 8, 30);
                if (laid.cell(7, 5) == direction) {
                    want = number;
                }
            }
            CHECK.due("bestBar(7, " + direction + ", 30)", grid.bestBar(7, direction, 30), want);
        }
    }

    private static void leastTurns() {
        NeedleGrid grid = emptyField();
        CHECK.due("no turns, no aim: one is enough", grid.leastTurns(9), 1);
        grid.set(0, 12);
        grid.coil(50, 0);
        CHECK.due("12 * 12 is at most 5 * 2 * 15", grid.leastTurns(9), 15);
        grid.coil(0, 7);
        CHECK.due("slanting: 12 * 2n is above 5 * (12 + 2n)", grid.leastTurns(9), 5);
        grid.coil(0, 6);
        CHECK.due("the aim is there without a turn", grid.leastTurns(9), 0);
        grid.coil(7, 2);
        CHECK.due("above 12, against the earth", grid.leastTurns(9), 7);
        CHECK.due("the turns are as they were", grid.count(2), 7);
        grid.set(0, 200);
        CHECK.due("50 turns are not enough", grid.leastTurns(9), NeedleGrid.NONE);
        grid.set(1, 4);
        grid.set(0, 199);
        CHECK.due("50 turns are just enough", grid.leastTurns(9), 50);
        grid.set(1, 0);
        CHECK.due("a coil without strength", grid.leastTurns(9), NeedleGrid.NONE);
        CHECK.noSuch(grid, "leastTurns(36)", () -> grid.leastTurns(36));
        CHECK.noSuch(grid, "leastTurns(-1)", () -> grid.leastTurns(-1));
    }

    private static void obedience() {
        NeedleGrid grid = new NeedleGrid();
        CHECK.dueShare("all point to their aim", grid.obedience(), 1.0);
        for (int away = 1; away <= 36; away++) {
            grid.set(2, 0);
            grid.needle(away - 1, 0);
            CHECK.dueShare(away + " do not", grid.obedience(), (36.0 - away) / 36.0);
        }
        grid.set(0, 0);
        CHECK.dueShare("none has an aim", grid.obedience(), 1.0);
        grid.bar(14, 6, 50);
        int obeying = 0;
        for (int cell = 0; cell < 36; cell++) {
            grid.needle(cell, cell % 8);
            obeying += grid.cell(cell, 5) == cell % 8 ? 1 : 0;
        }
        CHECK.dueShare("35 have one", grid.obedience(), obeying / 35.0);
    }

    private static void digest() {
        digestDue("a new object", new NeedleGrid(), "");
        digestDue("a buffer", new NeedleGrid(), "x~!");
        digestDue("needles that swing", Scenes.swinging(), "00a5;");
        for (int obeying = 0; obeying <= 36; obeying++) {
            digestDue(obeying + " needles that obey", withObeying(obeying), "");
        }
        digestDue("all of it", withAllOfIt(), "~");
        for (int steps = 1; steps <= 50; steps++) {
            NeedleGrid turning = Scenes.restsBehind101();
            turning.step(steps);
            digestDue(steps + " steps", turning, "");
        }
        for (int earth = 0; earth <= 200; earth++) {
            NeedleGrid under = withAllOfIt();
            under.set(0, earth);
            digestDue("the earth " + earth, under, "");
        }
        for (int earth = 47; earth <= 48; earth++) {
            NeedleGrid narrow = new NeedleGrid();
            narrow.set(2, 0);
            narrow.set(0, earth);
            digestDue("bars that just do, and just do not, against the earth " + earth, narrow, "");
        }
        NeedleGrid stepped = withAllOfIt();
        stepped.step(1);
        digestDue("a step", stepped, "");
        NeedleGrid undone = withAllOfIt();
        undone.undo();
        digestDue("undo", undone, "");
    }

    private static NeedleGrid withObeying(int obeying) {
        NeedleGrid grid = new NeedleGrid();
        grid.set(2, 0);
        for (int cell = obeying; cell < 36; cell++) {
            grid.needle(cell, cell % 6);
        }
        return grid;
    }

    private static NeedleGrid withAllOfIt() {
        NeedleGrid grid = new NeedleGrid();
        grid.bar(14, 0, 20);
        grid.bar(3, 1, 50);
        grid.coil(9, 3);
        grid.needle(20, 1);
        grid.hold(4, true);
        grid.friction(5, 999);
        return grid;
    }

    private static void digestDue(String state, NeedleGrid grid, String buffer) {
        Check.type(grid, buffer);
        CHECK.due("digest with " + state, grid.digest(), Digests.byTheDocument(new Digests.Asked(grid), buffer));
    }
}
