/** The sections "Turning" and "Settings", sentence by sentence. */
final class TurningSentences {
    private TurningSentences() {
    }

    static void tell(Sentences all) {
        all.in("Turning");
        all.holds("The aim of a cell is the direction of its field: with a and b as x and y without their signs",
                TurningSentences::theAimKnowsTheSigns);
        all.holds("none, if both are 0", TurningSentences::noAim);
        all.holds("left or right, if 12 * b is at most 5 * a", TurningSentences::leftOrRight);
        all.holds("up or down, if 12 * a is at most 5 * b", TurningSentences::upOrDown);
        all.holds("the slanting one by the signs otherwise.", TurningSentences::slanting);
        all.holds("In a step each needle that is not held fast", TurningSentences::notHeldFast);
        all.holds("has an aim", TurningSentences::hasAnAim);
        all.holds("and a field for which a and b together are above its friction", TurningSentences::aboveItsFriction);
        all.holds("turns by one direction towards the aim: by the shorter way", TurningSentences::theShorterWay);
        all.holds("if the aim is opposite, to the next greater number (7: to 0).", TurningSentences::opposite);
        all.holds("All fields of a step are those ahead of it.", TurningSentences::fieldsAheadOfTheStep);
        all.holds("The grid is at rest if no needle would turn in a step.", TurningSentences::atRest);
        all.in("Settings");
        all.holds("0: the earth, 0 to 200, at first 20", check -> settingRange(check, 0, 200, 20));
        all.holds("1: a turn of the coil, 0 to 20, at first 2", check -> settingRange(check, 1, 20, 2));
        all.holds("2: how much a needle turns its neighbours, 0 to 50, at first 3.",
                check -> settingRange(check, 2, 50, 3));
    }

    /** A field by the coil alone, with the earth taken away from it. */
    private static NeedleGrid coilAndEarth(int turns, int direction, int earth) {
        NeedleGrid grid = Scenes.withoutField();
        grid.set(1, 1);
        grid.set(0, earth);
        grid.coil(turns, direction);
        return grid;
    }

    /** A field of so much by the coil to its direction, and at the cell 16 of 5 to the side of a weak bar's. */
    private static NeedleGrid coilAndFive(int turns, int direction, int barDirection) {
        NeedleGrid grid = coilAndEarth(turns, direction, 0);
        grid.bar(0, barDirection, 1);
        return grid;
    }

    private static void aimDue(Check check, String field, NeedleGrid grid, int cell, int want) {
        check.due("aim with the field " + field, grid.cell(cell, 5), want);
    }

    private static void theAimKnowsTheSigns(Check check) {
        for (int direction = 0; direction < 8; direction++) {
            NeedleGrid grid = coilAndEarth(50, direction, 0);
            aimDue(check, "of 50 to " + direction, grid, 0, direction);
            aimDue(check, "of 50 to " + direction, grid, 35, direction);
            aimDue(check, "of the neighbours' to " + direction, Scenes.neighboursAlone(direction), 14, direction);
        }
    }

    private static void noAim(Check check) {
        aimDue(check, "(0, 0)", coilAndEarth(0, 0, 0), 14, NeedleGrid.NONE);
        aimDue(check, "(0, 7 - 7)", coilAndEarth(7, 2, 7), 14, NeedleGrid.NONE);
        aimDue(check, "(0, 1)", coilAndEarth(8, 2, 7), 14, 2);
        aimDue(check, "(0, -1)", coilAndEarth(6, 2, 7), 14, 6);
        aimDue(check, "(1, 0)", coilAndEarth(1, 1, 1), 14, 0);
        aimDue(check, "(-1, 0)", coilAndEarth(1, 3, 1), 14, 4);
    }

    private static void leftOrRight(Check check) {
        aimDue(check, "(12, -5): 60 is at most 60", coilAndEarth(12, 0, 5), 14, 0);
        aimDue(check, "(24, -10): 120 is at most 120", coilAndEarth(24, 0, 10), 14, 0);
        aimDue(check, "(7, -3): 36 is above 35", coilAndEarth(7, 0, 3), 14, 7);
        aimDue(check, "(-12, -5)", coilAndEarth(12, 4, 5), 14, 4);
        aimDue(check, "(-7, -3)", coilAndEarth(7, 4, 3), 14, 5);
        aimDue(check, "(12, 5)", coilAndEarth(12, 1, 7), 14, 0);
        aimDue(check, "(7, 3)", coilAndEarth(7, 1, 4), 14, 1);
        aimDue(check, "(-12, 5)", coilAndEarth(12, 3, 7), 14, 4);
        aimDue(check, "(-7, 3)", coilAndEarth(7, 3, 4), 14, 3);
    }

    private static void upOrDown(Check check) {
        aimDue(check, "(5, -12): 60 is at most 60", coilAndEarth(5, 0, 12), 14, 6);
        aimDue(check, "(10, -24): 120 is at most 120", coilAndEarth(10, 0, 24), 14, 6);
        aimDue(check, "(3, -7): 36 is above 35", coilAndEarth(3, 0, 7), 14, 7);
        aimDue(check, "(-5, -12)", coilAndEarth(5, 4, 12), 14, 6);
        aimDue(check, "(-3, -7)", coilAndEarth(3, 4, 7), 14, 5);
        aimDue(check, "(5, 12)", coilAndFive(12, 2, 0), 16, 2);
        aimDue(check, "(5, 11): 60 is above 55", coilAndFive(11, 2, 0), 16, 1);
        aimDue(check, "(-5, 12)", coilAndFive(12, 2, 4), 16, 2);
        aimDue(check, "(-5, 11): 60 is above 55", coilAndFive(11, 2, 4), 16, 3);
    }

    private static void slanting(Check check) {
        aimDue(check, "(1, 1)", coilAndEarth(1, 1, 0), 14, 1);
        aimDue(check, "(-1, 1)", coilAndEarth(1, 3, 0), 14, 3);
        aimDue(check, "(-1, -1)", coilAndEarth(1, 5, 0), 14, 5);
        aimDue(check, "(1, -1)", coilAndEarth(1, 7, 0), 14, 7);
    }

    private static void notHeldFast(Check check) {
        NeedleGrid grid = Scenes.earthAlone();
        grid.needle(0, 2);
        grid.needle(35, 2);
        grid.hold(0, true);
        check.due("only the one that is free turns", grid.step(1), 1);
        check.due("the held one", grid.cell(0, 0), 2);
        check.due("the free one", grid.cell(35, 0), 3);
    }

    /** The bar's own cell alone has no field; 22 cells lie along the bar, and aim down, the others up. */
    private static void hasAnAim(Check check) {
        NeedleGrid grid = Scenes.withoutField();
        grid.bar(14, 2, 50);
        grid.friction(14, 0);
        check.due("all that aim down turn", grid.step(1), 22);
        check.due("the one without an aim", grid.cell(14, 0), 6);
        check.due("it would never turn", grid.points(14, 100), 6);
    }

    private static void aboveItsFriction(Check check) {
        NeedleGrid grid = Scenes.withoutField();
        grid.set(1, 20);
        grid.coil(25, 3);
        grid.needle(14, 5);
        frictionDue(check, grid, 999, 1);
        grid.coil(50, 0);
        frictionDue(check, grid, 999, 1);
        grid.set(1, 1);
        grid.coil(1, 1);
        frictionDue(check, grid, 0, 1);
        frictionDue(check, grid, 1, 1);
        frictionDue(check, grid, 2, 0);
        grid.coil(1, 4);
        frictionDue(check, grid, 0, 1);
        frictionDue(check, grid, 1, 0);
        grid.coil(1, 6);
        frictionDue(check, grid, 0, 1);
        frictionDue(check, grid, 1, 0);
        grid.coil(1, 7);
        frictionDue(check, grid, 1, 1);
        frictionDue(check, grid, 2, 0);
        grid.coil(4, 3);
        frictionDue(check, grid, 7, 1);
        frictionDue(check, grid, 8, 0);
        frictionDue(check, grid, 9, 0);
    }

    private static void frictionDue(Check check, NeedleGrid grid, int friction, int wouldTurn) {
        grid.friction(14, friction);
        int size = Math.abs(grid.cell(14, 3) - 100000) + Math.abs(grid.cell(14, 4) - 100000);
        check.due("would turn by " + size + " against " + friction, grid.cell(14, 6), wouldTurn);
        check.due("turns by " + size + " against " + friction, grid.points(14, 1) != 5, wouldTurn == 1);
    }

    private static void turnDue(Check check, int from, int aim, int want) {
        NeedleGrid grid = coilAndEarth(50, aim, 0);
        grid.needle(14, from);
        grid.step(1);
        check.due("from " + from + " towards " + aim, grid.cell(14, 0), want);
    }

    private static void theShorterWay(Check check) {
        turnDue(check, 0, 1, 1);
        turnDue(check, 0, 3, 1);
        turnDue(check, 0, 5, 7);
        turnDue(check, 0, 7, 7);
        turnDue(check, 7, 0, 0);
        turnDue(check, 7, 2, 0);
        turnDue(check, 7, 4, 6);
        turnDue(check, 7, 6, 6);
        turnDue(check, 3, 6, 4);
        turnDue(check, 3, 0, 2);
        turnDue(check, 6, 1, 7);
        turnDue(check, 1, 6, 0);
        for (int direction = 0; direction < 8; direction++) {
            turnDue(check, direction, direction, direction);
        }
    }

    private static void opposite(Check check) {
        for (int from = 0; from < 7; from++) {
            turnDue(check, from, (from + 4) % 8, from + 1);
        }
        turnDue(check, 7, 3, 0);
    }

    private static void fieldsAheadOfTheStep(Check check) {
        NeedleGrid follower = Scenes.follower();
        follower.step(1);
        check.due("the leader has turned", follower.cell(0, 0), 1);
        check.due("the follower turns a step later", follower.cell(1, 0), 0);
        NeedleGrid swinging = Scenes.swinging();
        swinging.step(1);
        check.due("the first turned to where the second was", swinging.cell(7, 0), 1);
        check.due("the second turned to where the first was", swinging.cell(8, 0), 0);
    }

    private static void atRest(Check check) {
        NeedleGrid grid = Scenes.earthAlone();
        check.due("all point to their aim", grid.restsIn(), 0);
        grid.needle(35, 2);
        check.due("one would turn", grid.restsIn(), 4);
        grid.hold(35, true);
        check.due("it is held", grid.restsIn(), 0);
        grid.hold(35, false);
        grid.friction(35, 20);
        check.due("the field is not above its friction", grid.restsIn(), 0);
        grid.friction(35, 19);
        check.due("the field is above its friction", grid.restsIn(), 4);
        grid.set(0, 0);
        check.due("it has no aim", grid.restsIn(), 0);
    }

    private static void settingRange(Check check, int setting, int most, int atFirst) {
        NeedleGrid grid = new NeedleGrid();
        check.due("at first", grid.setting(setting), atFirst);
        grid.set(setting, most);
        check.due("the most", grid.setting(setting), most);
        grid.set(setting, 0);
        check.due("the least", grid.setting(setting), 0);
        check.outOfRangeBeyond(grid, "set", 0, most, value -> grid.set(setting, value));
    }
}
