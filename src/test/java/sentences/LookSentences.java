/** Promises 16 to 20, sentence by sentence. */
final class LookSentences {
    private LookSentences() {
    }

    static void tell(Sentences all) {
        tellCell(all);
        tellBarOf(all);
        tellCount(all);
        tellPointing(all);
        tellSetting(all);
    }

    private static void tellCell(Sentences all) {
        all.in("Promise 16");
        all.holds("Returns something of a cell.", LookSentences::somethingOfACell);
        all.holds("`cell`: 0 to 35", LookSentences::theFirstAndTheLastCell);
        all.holds("0: the direction of its needle", LookSentences::cellsDirection);
        all.holds("1: its friction", LookSentences::cellsFriction);
        all.holds("2: 1 if the needle is held fast, otherwise 0", LookSentences::cellsHeld);
        all.holds("3: x of its field, with 100000 more", LookSentences::cellsLeastAndMostX);
        all.holds("4: y of it, with 100000 more", LookSentences::cellsLeastAndMostY);
        all.holds("5: its aim, NONE if there is none", LookSentences::cellsAim);
        all.holds("6: 1 if its needle would turn in a step, otherwise 0", LookSentences::cellsTurning);
        all.holds("7: by how many directions the needle is away from the aim, 0 to 4, NONE without an aim",
                LookSentences::cellsAway);
        all.asksNothing("Returns the number.");
        all.holds("Throws `IndexOutOfBoundsException` if there is no such cell", check -> {
            NeedleGrid grid = new NeedleGrid();
            for (int what = 0; what <= 7; what++) {
                int asked = what;
                check.noSuchBeyond(grid, "cell, what " + what, 0, 35, cell -> grid.cell(cell, asked));
            }
        });
        all.holds("Throws `IllegalArgumentException` if what is not 0 to 7", check -> {
            NeedleGrid grid = new NeedleGrid();
            check.outOfRangeBeyond(grid, "cell", 0, 7, what -> grid.cell(0, what));
            check.outOfRangeBeyond(grid, "the last cell", 0, 7, what -> grid.cell(35, what));
        });
    }

    private static void tellBarOf(Sentences all) {
        all.in("Promise 17");
        all.holds("Returns something of a bar, by ascending cells.", LookSentences::barsByAscendingCells);
        all.holds("`place`: its place by cells, from 0", LookSentences::placesFromNone);
        all.holds("`what`: 0: its cell", LookSentences::barsCell);
        all.holds("1: its direction", LookSentences::barsDirection);
        all.holds("2: its strength", LookSentences::barsStrength);
        all.holds("Returns the number, NONE if there are not so many.", LookSentences::notSoManyBars);
        all.holds("Throws `IllegalArgumentException` if place is below 0", LookSentences::placeBelowNone);
        all.holds(", or what is not 0 to 2", LookSentences::noSuchWhatOfABar);
    }

    private static void tellCount(Sentences all) {
        all.in("Promise 18");
        all.asksNothing("Returns a number.");
        all.holds("`what`: 0: steps so far", LookSentences::stepsSoFar);
        all.holds("1: bars", LookSentences::countOfBars);
        all.holds("2: turns of the coil", LookSentences::countOfTurns);
        all.holds("3: the direction of the coil", LookSentences::coilsDirection);
        all.holds("4: needles that are held fast", LookSentences::countOfHeldOnes);
        all.holds("5: needles that would turn in a step", LookSentences::countOfTurningOnes);
        all.holds("6: needles that point to their aim", LookSentences::countOfObeyingOnes);
        all.holds("7: how far all needles that have an aim are away from it, together", LookSentences::awayTogether);
        all.holds("8: saved states", LookSentences::countOfSavedStates);
        all.asksNothing("Returns the number.");
        all.holds("Throws `IllegalArgumentException` if what is not 0 to 8", check -> {
            NeedleGrid grid = new NeedleGrid();
            check.outOfRangeBeyond(grid, "count", 0, 8, grid::count);
        });
    }

    private static void tellPointing(Sentences all) {
        all.in("Promise 19");
        all.holds("Returns how many needles point in a direction.", LookSentences::pointingAtFirst);
        all.holds("`direction`: 0 to 7", LookSentences::pointingInEachDirection);
        all.holds("Returns how many.", LookSentences::noneAndAllPoint);
        all.holds("Throws `IllegalArgumentException` if direction is out of range", check -> {
            NeedleGrid grid = new NeedleGrid();
            check.outOfRangeBeyond(grid, "pointing", 0, 7, grid::pointing);
        });
    }

    private static void tellSetting(Sentences all) {
        all.in("Promise 20");
        all.holds("Returns a setting.", LookSentences::settingsAtFirst);
        all.holds("`setting`: 0 to 2", LookSentences::theFirstAndTheLastSetting);
        all.holds("Returns its value.", LookSentences::theLeastAndTheMostOfASetting);
        all.holds("Throws `IndexOutOfBoundsException` if there is no such setting", check -> {
            NeedleGrid grid = new NeedleGrid();
            check.noSuchBeyond(grid, "setting", 0, 2, grid::setting);
        });
    }

    private static void somethingOfACell(Check check) {
        NeedleGrid grid = new NeedleGrid();
        int[] due = {6, 10, 0, 100000, 100000 - 32, 6, 0, 0};
        for (int what = 0; what <= 7; what++) {
            check.due("cell(14, " + what + ")", grid.cell(14, what), due[what]);
        }
    }

    private static void theFirstAndTheLastCell(Check check) {
        NeedleGrid grid = new NeedleGrid();
        grid.friction(0, 1);
        grid.friction(1, 2);
        grid.friction(34, 3);
        grid.friction(35, 4);
        check.due("the first", grid.cell(0, 1), 1);
        check.due("the last", grid.cell(35, 1), 4);
    }

    private static void cellsDirection(Check check) {
        NeedleGrid grid = new NeedleGrid();
        for (int direction = 0; direction <= 7; direction++) {
            grid.needle(14, direction);
            check.due("direction", grid.cell(14, 0), direction);
        }
    }

    private static void cellsFriction(Check check) {
        NeedleGrid grid = new NeedleGrid();
        grid.friction(14, 0);
        check.due("the least", grid.cell(14, 1), 0);
        grid.friction(14, 999);
        check.due("the most", grid.cell(14, 1), 999);
    }

    private static void cellsHeld(Check check) {
        NeedleGrid grid = new NeedleGrid();
        check.due("at first", grid.cell(14, 2), 0);
        grid.hold(14, true);
        check.due("held", grid.cell(14, 2), 1);
        check.due("another", grid.cell(13, 2), 0);
        grid.hold(14, false);
        check.due("let go", grid.cell(14, 2), 0);
    }

    /**
     * All that there is points along or against one axis at the cell 14: two bars along it with 5000 each, two
     * beside it, the other way round, and two slanting away from it with 2500 each, 1000 of the coil and 200 of
     * the neighbours.
     */
    private static NeedleGrid strongest(int direction, int alongOne, int alongOther, int besideOne, int besideOther) {
        NeedleGrid grid = new NeedleGrid();
        grid.set(0, 0);
        grid.set(1, 20);
        grid.set(2, 50);
        grid.coil(50, direction);
        grid.bar(alongOne, direction, 50);
        grid.bar(alongOther, direction, 50);
        grid.bar(besideOne, (direction + 4) % 8, 50);
        grid.bar(besideOther, (direction + 4) % 8, 50);
        grid.bar(7, direction, 50);
        grid.bar(21, direction, 50);
        for (int neighbour : new int[] {8, 13, 15, 20}) {
            grid.needle(neighbour, direction);
        }
        return grid;
    }

    private static void cellsLeastAndMostX(Check check) {
        NeedleGrid right = strongest(0, 13, 15, 8, 20);
        check.due("the most x", right.cell(14, 3), 100000 + 21200);
        check.due("its y", right.cell(14, 4), 100000);
        NeedleGrid left = strongest(4, 13, 15, 8, 20);
        check.due("the least x", left.cell(14, 3), 100000 - 21200);
        check.due("no x", Scenes.withoutField().cell(14, 3), 100000);
    }

    private static void cellsLeastAndMostY(Check check) {
        NeedleGrid down = strongest(2, 8, 20, 13, 15);
        check.due("the most y", down.cell(14, 4), 100000 + 21200);
        check.due("its x", down.cell(14, 3), 100000);
        NeedleGrid up = strongest(6, 8, 20, 13, 15);
        up.set(0, 200);
        check.due("the least y", up.cell(14, 4), 100000 - 21400);
        check.due("no y", Scenes.withoutField().cell(14, 4), 100000);
    }

    private static void cellsAim(Check check) {
        NeedleGrid grid = Scenes.withoutField();
        check.due("no field, no aim", grid.cell(14, 5), NeedleGrid.NONE);
        for (int direction = 0; direction <= 7; direction++) {
            grid.coil(1, direction);
            check.due("aim", grid.cell(14, 5), direction);
        }
        grid.hold(14, true);
        grid.friction(14, 999);
        check.due("aim of one that is held", grid.cell(14, 5), 7);
    }

    private static void cellsTurning(Check check) {
        NeedleGrid grid = Scenes.earthAlone();
        check.due("it points to its aim", grid.cell(14, 6), 0);
        grid.needle(14, 5);
        check.due("it does not", grid.cell(14, 6), 1);
        grid.friction(14, 20);
        check.due("its friction holds it", grid.cell(14, 6), 0);
        grid.friction(14, 19);
        grid.hold(14, true);
        check.due("it is held", grid.cell(14, 6), 0);
        grid.hold(14, false);
        check.due("it is let go", grid.cell(14, 6), 1);
        grid.set(0, 0);
        check.due("it has no aim", grid.cell(14, 6), 0);
    }

    private static void cellsAway(Check check) {
        int[] away = {0, 1, 2, 3, 4, 3, 2, 1};
        for (int aim = 0; aim <= 7; aim++) {
            NeedleGrid grid = Scenes.withoutField();
            grid.needle(14, aim);
            check.due("without an aim", grid.cell(14, 7), NeedleGrid.NONE);
            grid.coil(1, aim);
            for (int more = 0; more <= 7; more++) {
                grid.needle(14, (aim + more) % 8);
                check.due("away from " + aim + ", " + more + " more", grid.cell(14, 7), away[more]);
            }
        }
    }

    /** Laid in no order; the last cell's is laid first. */
    private static NeedleGrid threeBars() {
        NeedleGrid grid = new NeedleGrid();
        grid.bar(35, 7, 50);
        grid.bar(0, 0, 1);
        grid.bar(14, 3, 25);
        return grid;
    }

    private static void barsByAscendingCells(Check check) {
        NeedleGrid grid = threeBars();
        check.due("first", grid.barOf(0, 0), 0);
        check.due("second", grid.barOf(1, 0), 14);
        check.due("third", grid.barOf(2, 0), 35);
        grid.bar(13, 1, 1);
        check.due("second, with one before it", grid.barOf(1, 0), 13);
        check.due("third, with one before it", grid.barOf(2, 0), 14);
    }

    private static void placesFromNone(Check check) {
        NeedleGrid grid = Scenes.sixBars();
        for (int place = 0; place < 6; place++) {
            check.due("strength of " + place, grid.barOf(place, 2), place + 1);
        }
        grid.unbar(0);
        check.due("the first moves up", grid.barOf(0, 2), 2);
        check.due("the last moves up", grid.barOf(4, 2), 6);
        check.due("its place is free", grid.barOf(5, 2), NeedleGrid.NONE);
    }

    private static void barsCell(Check check) {
        check.due("the first cell", threeBars().barOf(0, 0), 0);
        check.due("the last cell", threeBars().barOf(2, 0), 35);
    }

    private static void barsDirection(Check check) {
        check.due("the first direction", threeBars().barOf(0, 1), 0);
        check.due("the last direction", threeBars().barOf(2, 1), 7);
    }

    private static void barsStrength(Check check) {
        check.due("the least", threeBars().barOf(0, 2), 1);
        check.due("the most", threeBars().barOf(2, 2), 50);
    }

    private static void notSoManyBars(Check check) {
        NeedleGrid none = new NeedleGrid();
        NeedleGrid three = threeBars();
        NeedleGrid six = Scenes.sixBars();
        for (int what = 0; what <= 2; what++) {
            check.due("without bars", none.barOf(0, what), NeedleGrid.NONE);
            check.due("behind three", three.barOf(3, what), NeedleGrid.NONE);
            check.due("behind six", six.barOf(6, what), NeedleGrid.NONE);
            check.due("far behind", six.barOf(36, what), NeedleGrid.NONE);
            check.due("the farthest", six.barOf(Integer.MAX_VALUE, what), NeedleGrid.NONE);
        }
        check.due("the last of six", six.barOf(5, 2), 6);
    }

    private static void placeBelowNone(Check check) {
        NeedleGrid six = Scenes.sixBars();
        NeedleGrid none = new NeedleGrid();
        for (int what = 0; what <= 2; what++) {
            int asked = what;
            check.outOfRange(six, "barOf(-1, " + what + ")", () -> six.barOf(-1, asked));
            check.outOfRange(six, "barOf of the least", () -> six.barOf(Integer.MIN_VALUE, asked));
            check.outOfRange(none, "barOf(-1, " + what + ") without bars", () -> none.barOf(-1, asked));
        }
    }

    private static void noSuchWhatOfABar(Check check) {
        NeedleGrid six = Scenes.sixBars();
        NeedleGrid none = new NeedleGrid();
        check.outOfRangeBeyond(six, "barOf", 0, 2, what -> six.barOf(0, what));
        check.outOfRangeBeyond(six, "barOf a place too far", 0, 2, what -> six.barOf(6, what));
        check.outOfRangeBeyond(none, "barOf without bars", 0, 2, what -> none.barOf(0, what));
        check.outOfRangeBeyond(six, "barOf(-1, ..)", 0, 2, what -> six.barOf(-1, what));
    }

    private static void stepsSoFar(Check check) {
        NeedleGrid grid = new NeedleGrid();
        check.due("at first", grid.count(0), 0);
        grid.step(1);
        check.due("one", grid.count(0), 1);
        grid.step(50);
        check.due("more", grid.count(0), 51);
        grid.points(0, 100);
        grid.restsIn();
        check.due("those that only would be are none", grid.count(0), 51);
        grid.undo();
        check.due("behind undo", grid.count(0), 1);
    }

    private static void countOfBars(Check check) {
        check.due("none", new NeedleGrid().count(1), 0);
        check.due("the most", Scenes.sixBars().count(1), 6);
        NeedleGrid ends = new NeedleGrid();
        ends.bar(0, 0, 1);
        ends.bar(35, 0, 1);
        check.due("in the first and the last cell", ends.count(1), 2);
    }

    private static void countOfTurns(Check check) {
        NeedleGrid grid = new NeedleGrid();
        check.due("at first", grid.count(2), 0);
        grid.coil(50, 1);
        check.due("the most", grid.count(2), 50);
        grid.coil(0, 1);
        check.due("none", grid.count(2), 0);
    }

    private static void coilsDirection(Check check) {
        NeedleGrid grid = new NeedleGrid();
        check.due("at first", grid.count(3), 0);
        grid.coil(1, 7);
        check.due("the last", grid.count(3), 7);
        grid.coil(0, 5);
        check.due("without turns", grid.count(3), 5);
    }

    private static void countOfHeldOnes(Check check) {
        NeedleGrid grid = new NeedleGrid();
        check.due("at first", grid.count(4), 0);
        for (int cell = 0; cell < 36; cell++) {
            grid.hold(cell, true);
            check.due("up to " + cell, grid.count(4), cell + 1);
        }
        grid.hold(35, true);
        check.due("held twice", grid.count(4), 36);
    }

    private static void countOfTurningOnes(Check check) {
        NeedleGrid grid = Scenes.earthAlone();
        check.due("at rest", grid.count(5), 0);
        for (int cell = 0; cell < 36; cell++) {
            grid.needle(cell, cell % 6);
            check.due("up to " + cell, grid.count(5), cell + 1);
        }
        grid.hold(0, true);
        grid.friction(35, 20);
        check.due("one held, one rubbed", grid.count(5), 34);
        grid.set(0, 0);
        check.due("without a field", grid.count(5), 0);
    }

    private static void countOfObeyingOnes(Check check) {
        NeedleGrid grid = Scenes.earthAlone();
        check.due("all", grid.count(6), 36);
        grid.hold(0, true);
        grid.friction(35, 999);
        check.due("held and rubbed ones, too", grid.count(6), 36);
        for (int cell = 0; cell < 36; cell++) {
            grid.needle(cell, cell % 6);
            check.due("none up to " + cell, grid.count(6), 35 - cell);
        }
        NeedleGrid aimless = Scenes.withoutField();
        check.due("none without an aim", aimless.count(6), 0);
    }

    private static void awayTogether(Check check) {
        NeedleGrid grid = Scenes.earthAlone();
        check.due("none is away", grid.count(7), 0);
        grid.needle(0, 5);
        check.due("the first by 1", grid.count(7), 1);
        grid.needle(35, 2);
        check.due("the last by 4", grid.count(7), 5);
        grid.hold(35, true);
        grid.friction(0, 999);
        check.due("held and rubbed ones, too", grid.count(7), 5);
        for (int cell = 0; cell < 36; cell++) {
            grid.needle(cell, 2);
        }
        check.due("all by 4", grid.count(7), 144);
        grid.set(0, 0);
        check.due("none has an aim", grid.count(7), 0);
        grid.bar(14, 2, 50);
        check.due("13 cells beside the bar aim up", grid.count(7), 13 * 4);
    }

    private static void countOfSavedStates(Check check) {
        NeedleGrid grid = new NeedleGrid();
        check.due("at first", grid.count(8), 0);
        for (int call = 1; call <= 8; call++) {
            grid.step(1);
            check.due("behind " + call + " calls", grid.count(8), Math.min(6, call));
        }
        grid.undo();
        check.due("behind undo", grid.count(8), 5);
    }

    private static void pointingAtFirst(Check check) {
        NeedleGrid grid = new NeedleGrid();
        for (int direction = 0; direction <= 7; direction++) {
            check.due("pointing(" + direction + ")", grid.pointing(direction), direction == 6 ? 36 : 0);
        }
    }

    private static void pointingInEachDirection(Check check) {
        NeedleGrid grid = new NeedleGrid();
        for (int cell = 0; cell < 36; cell++) {
            grid.needle(cell, cell % 8);
        }
        int[] due = {5, 5, 5, 5, 4, 4, 4, 4};
        for (int direction = 0; direction <= 7; direction++) {
            check.due("pointing(" + direction + ")", grid.pointing(direction), due[direction]);
        }
    }

    private static void noneAndAllPoint(Check check) {
        NeedleGrid grid = new NeedleGrid();
        for (int cell = 0; cell < 36; cell++) {
            check.due("before " + cell, grid.pointing(0), cell);
            grid.needle(cell, 0);
            grid.hold(cell, true);
        }
        check.due("all", grid.pointing(0), 36);
        check.due("none", grid.pointing(6), 0);
    }

    private static void settingsAtFirst(Check check) {
        NeedleGrid grid = new NeedleGrid();
        check.due("the earth", grid.setting(0), 20);
        check.due("a turn of the coil", grid.setting(1), 2);
        check.due("neighbours", grid.setting(2), 3);
    }

    private static void theFirstAndTheLastSetting(Check check) {
        NeedleGrid grid = new NeedleGrid();
        grid.set(0, 7);
        grid.set(2, 9);
        check.due("the first", grid.setting(0), 7);
        check.due("the one between", grid.setting(1), 2);
        check.due("the last", grid.setting(2), 9);
    }

    private static void theLeastAndTheMostOfASetting(Check check) {
        NeedleGrid grid = new NeedleGrid();
        int[] most = {200, 20, 50};
        for (int setting = 0; setting <= 2; setting++) {
            grid.set(setting, most[setting]);
            check.due("the most", grid.setting(setting), most[setting]);
            grid.set(setting, 0);
            check.due("the least", grid.setting(setting), 0);
        }
    }
}
