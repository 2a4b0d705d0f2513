/** Promises 6 to 10, sentence by sentence. */
final class BarSentences {
    private BarSentences() {
    }

    static void tell(Sentences all) {
        tellBar(all);
        tellUnbar(all);
        tellCoil(all);
        tellSet(all);
        tellStep(all);
    }

    private static void tellBar(Sentences all) {
        all.in("Promise 6");
        all.holds("Lays a bar into a cell, in place of the one that lies there.", BarSentences::barInPlaceOfAnother);
        all.holds("Undoable.", check -> {
            NeedleGrid grid = new NeedleGrid();
            check.undoable(grid, "bar", () -> grid.bar(14, 0, 50));
            grid.bar(14, 0, 50);
            check.undoable(grid, "bar in place of another", () -> grid.bar(14, 2, 1));
            check.undoable(grid, "the same bar", () -> grid.bar(14, 0, 50));
        });
        all.holds("`cell`: 0 to 35", BarSentences::barInTheFirstAndTheLastCell);
        all.holds("`direction`: 0 to 7", BarSentences::barToEachDirection);
        all.holds("`strength`: 1 to 50", BarSentences::theWeakestAndTheStrongestBar);
        all.holds("Returns how many bars there are then.", BarSentences::barReturnsHowMany);
        all.holds("Throws `IndexOutOfBoundsException` if there is no such cell", check -> {
            NeedleGrid grid = new NeedleGrid();
            check.noSuchBeyond(grid, "bar", 0, 35, cell -> grid.bar(cell, 0, 1));
        });
        all.holds("Throws `IllegalArgumentException` if direction or strength is out of range", check -> {
            NeedleGrid grid = new NeedleGrid();
            check.outOfRangeBeyond(grid, "bar, direction", 0, 7, direction -> grid.bar(0, direction, 1));
            check.outOfRangeBeyond(grid, "bar, strength", 1, 50, strength -> grid.bar(0, 0, strength));
        });
        all.holds("Throws `IllegalStateException` if there are 6 bars, and none lies there",
                BarSentences::noSeventhBar);
    }

    private static void tellUnbar(Sentences all) {
        all.in("Promise 7");
        all.holds("Takes the bar of a cell away.", BarSentences::unbarTakesTheOne);
        all.holds("Undoable.", check -> {
            NeedleGrid grid = new NeedleGrid();
            grid.bar(14, 5, 50);
            check.undoable(grid, "unbar", () -> grid.unbar(14));
        });
        all.holds("`cell`: 0 to 35", BarSentences::unbarOfTheFirstAndTheLastCell);
        all.holds("Returns how many bars there are then.", BarSentences::unbarReturnsHowMany);
        all.holds("Throws `IndexOutOfBoundsException` if there is no such cell", check -> {
            NeedleGrid grid = Scenes.sixBars();
            check.noSuchBeyond(grid, "unbar", 0, 35, grid::unbar);
        });
        all.holds("Throws `IllegalStateException` if no bar lies there", BarSentences::unbarWithoutABar);
    }

    private static void tellCoil(Sentences all) {
        all.in("Promise 8");
        all.holds("Changes the coil.", BarSentences::coilChangesTurnsAndDirection);
        all.holds("Undoable.", check -> {
            NeedleGrid grid = new NeedleGrid();
            check.undoable(grid, "coil", () -> grid.coil(50, 7));
            check.undoable(grid, "the same coil", () -> grid.coil(0, 0));
        });
        all.holds("`turns`: 0 to 50", BarSentences::noTurnsAndTheMost);
        all.holds("`direction`: 0 to 7", BarSentences::coilToEachDirection);
        all.holds("Returns the previous turns.", BarSentences::coilReturnsThePreviousTurns);
        all.holds("Throws `IllegalArgumentException` if turns or direction is out of range", check -> {
            NeedleGrid grid = new NeedleGrid();
            check.outOfRangeBeyond(grid, "coil, turns", 0, 50, turns -> grid.coil(turns, 0));
            check.outOfRangeBeyond(grid, "coil, direction", 0, 7, direction -> grid.coil(0, direction));
            check.outOfRange(grid, "coil, both", () -> grid.coil(51, 8));
        });
    }

    private static void tellSet(Sentences all) {
        all.in("Promise 9");
        all.holds("Changes a setting.", BarSentences::setChangesTheField);
        all.holds("Undoable.", check -> {
            NeedleGrid grid = new NeedleGrid();
            check.undoable(grid, "set", () -> grid.set(2, 50));
            check.undoable(grid, "the same value", () -> grid.set(2, 3));
        });
        all.holds("`setting`: 0 to 2", BarSentences::setOfTheFirstAndTheLastSetting);
        all.holds("`value`: the new value", BarSentences::setToANewValue);
        all.holds("Returns the previous value.", BarSentences::setReturnsThePreviousValue);
        all.holds("Throws `IndexOutOfBoundsException` if there is no such setting", check -> {
            NeedleGrid grid = new NeedleGrid();
            check.noSuchBeyond(grid, "set", 0, 2, setting -> grid.set(setting, 0));
        });
        all.holds("Throws `IllegalArgumentException` if value is out of range", check -> {
            NeedleGrid grid = new NeedleGrid();
            check.outOfRangeBeyond(grid, "set, the earth", 0, 200, value -> grid.set(0, value));
            check.outOfRangeBeyond(grid, "set, a turn", 0, 20, value -> grid.set(1, value));
            check.outOfRangeBeyond(grid, "set, neighbours", 0, 50, value -> grid.set(2, value));
        });
    }

    private static void tellStep(Sentences all) {
        all.in("Promise 10");
        all.holds("Lets steps go by.", BarSentences::stepsGoBy);
        all.holds("Undoable, as one call.", check -> {
            NeedleGrid grid = Scenes.earthAlone();
            grid.needle(14, 2);
            check.undoable(grid, "many steps", () -> grid.step(50));
            check.undoable(grid, "one step", () -> grid.step(1));
        });
        all.holds("`steps`: 1 to 50", BarSentences::oneStepAndTheMost);
        all.holds("Returns how many turns of needles there are in them.", BarSentences::stepReturnsTheTurns);
        all.holds("Throws `IllegalArgumentException` if steps is out of range", check -> {
            NeedleGrid grid = Scenes.swinging();
            check.outOfRangeBeyond(grid, "step", 1, 50, grid::step);
        });
    }

    private static void barDue(Check check, NeedleGrid grid, int place, int cell, int direction, int strength) {
        check.due("cell of bar " + place, grid.barOf(place, 0), cell);
        check.due("direction of bar " + place, grid.barOf(place, 1), direction);
        check.due("strength of bar " + place, grid.barOf(place, 2), strength);
    }

    private static void barInPlaceOfAnother(Check check) {
        NeedleGrid grid = Scenes.withoutField();
        grid.bar(14, 0, 50);
        check.due("x beside it", grid.cell(15, 3), 100000 + 5000);
        grid.bar(14, 2, 1);
        barDue(check, grid, 0, 14, 2, 1);
        check.due("no second bar", grid.barOf(1, 0), NeedleGrid.NONE);
        check.due("nothing is left of the first: x", grid.cell(15, 3), 100000);
        check.due("y", grid.cell(15, 4), 100000 - 50);
    }

    private static void barInTheFirstAndTheLastCell(Check check) {
        NeedleGrid grid = new NeedleGrid();
        grid.bar(35, 1, 2);
        grid.bar(0, 3, 4);
        barDue(check, grid, 0, 0, 3, 4);
        barDue(check, grid, 1, 35, 1, 2);
    }

    private static void barToEachDirection(Check check) {
        NeedleGrid grid = new NeedleGrid();
        for (int direction = 0; direction <= 7; direction++) {
            grid.bar(14, direction, 1);
            barDue(check, grid, 0, 14, direction, 1);
        }
    }

    private static void theWeakestAndTheStrongestBar(Check check) {
        NeedleGrid grid = Scenes.withoutField();
        grid.bar(14, 0, 1);
        check.due("field of the weakest", grid.cell(15, 3), 100000 + 100);
        grid.bar(14, 0, 50);
        check.due("field of the strongest", grid.cell(15, 3), 100000 + 5000);
        barDue(check, grid, 0, 14, 0, 50);
    }

    private static void barReturnsHowMany(Check check) {
        NeedleGrid grid = new NeedleGrid();
        for (int cell = 0; cell < 6; cell++) {
            check.due("a new one", grid.bar(cell, 0, 1), cell + 1);
            check.due("in place of it", grid.bar(cell, 1, 2), cell + 1);
        }
    }

    private static void noSeventhBar(Check check) {
        NeedleGrid grid = Scenes.sixBars();
        check.wrongState(grid, "bar beside the six", () -> grid.bar(6, 0, 1));
        check.wrongState(grid, "bar in the last cell", () -> grid.bar(35, 0, 1));
        check.due("in place of the first", grid.bar(0, 4, 50), 6);
        check.due("in place of the last", grid.bar(5, 4, 50), 6);
        grid.unbar(3);
        check.due("a sixth", grid.bar(35, 0, 1), 6);
        check.wrongState(grid, "bar where one has lain", () -> grid.bar(3, 0, 1));
        grid.undo();
        check.due("a sixth behind undo", grid.bar(3, 0, 1), 6);
    }

    private static void unbarTakesTheOne(Check check) {
        NeedleGrid grid = Scenes.withoutField();
        grid.bar(13, 0, 50);
        grid.bar(14, 2, 1);
        grid.unbar(13);
        barDue(check, grid, 0, 14, 2, 1);
        check.due("nothing is left of its field: x", grid.cell(15, 3), 100000);
        check.due("the other's field: y", grid.cell(15, 4), 100000 - 50);
        NeedleGrid empty = Scenes.withoutField();
        empty.bar(0, 4, 50);
        empty.unbar(0);
        check.due("a weak one would turn all others, from none", empty.ifBar(0, 4, 1), 35);
        check.due("a weak one alone would lie there", empty.bestBar(1, 4, 1), 4);
    }

    private static void unbarOfTheFirstAndTheLastCell(Check check) {
        NeedleGrid grid = new NeedleGrid();
        grid.bar(0, 0, 1);
        grid.bar(14, 3, 9);
        grid.bar(35, 0, 1);
        check.due("unbar(0)", grid.unbar(0), 2);
        check.due("unbar(35)", grid.unbar(35), 1);
        barDue(check, grid, 0, 14, 3, 9);
    }

    private static void unbarReturnsHowMany(Check check) {
        NeedleGrid grid = Scenes.sixBars();
        for (int cell = 5; cell >= 0; cell--) {
            check.due("unbar(" + cell + ")", grid.unbar(cell), cell);
        }
    }

    private static void unbarWithoutABar(Check check) {
        NeedleGrid grid = new NeedleGrid();
        check.wrongState(grid, "unbar without any bar", () -> grid.unbar(0));
        grid.bar(14, 0, 1);
        grid.bar(14, 0, 2);
        check.wrongState(grid, "unbar beside it", () -> grid.unbar(13));
        check.wrongState(grid, "unbar of the last cell", () -> grid.unbar(35));
        grid.unbar(14);
        check.wrongState(grid, "unbar again", () -> grid.unbar(14));
    }

    private static void coilDue(Check check, NeedleGrid grid, int turns, int direction) {
        check.due("turns", grid.count(2), turns);
        check.due("direction", grid.count(3), direction);
    }

    private static void coilChangesTurnsAndDirection(Check check) {
        NeedleGrid grid = Scenes.withoutField();
        grid.coil(3, 4);
        coilDue(check, grid, 3, 4);
        check.due("x", grid.cell(0, 3), 100000 - 6);
        grid.coil(7, 2);
        coilDue(check, grid, 7, 2);
        check.due("x of the coil before is gone", grid.cell(35, 3), 100000);
        check.due("y", grid.cell(35, 4), 100000 + 14);
    }

    private static void noTurnsAndTheMost(Check check) {
        NeedleGrid grid = Scenes.withoutField();
        grid.coil(50, 5);
        coilDue(check, grid, 50, 5);
        check.due("x", grid.cell(14, 3), 100000 - 100);
        grid.coil(0, 5);
        coilDue(check, grid, 0, 5);
        check.due("x without turns", grid.cell(14, 3), 100000);
    }

    private static void coilToEachDirection(Check check) {
        NeedleGrid grid = new NeedleGrid();
        for (int direction = 0; direction <= 7; direction++) {
            grid.coil(1, direction);
            coilDue(check, grid, 1, direction);
        }
    }

    private static void coilReturnsThePreviousTurns(Check check) {
        NeedleGrid grid = new NeedleGrid();
        check.due("coil(50, 1)", grid.coil(50, 1), 0);
        check.due("coil(50, 2)", grid.coil(50, 2), 50);
        check.due("coil(0, 2)", grid.coil(0, 2), 50);
        check.due("coil(1, 2)", grid.coil(1, 2), 0);
        grid.undo();
        check.due("coil(9, 2) behind undo", grid.coil(9, 2), 0);
    }

    private static void setChangesTheField(Check check) {
        NeedleGrid grid = new NeedleGrid();
        grid.coil(1, 0);
        grid.set(0, 200);
        check.due("y in a corner", grid.cell(0, 4), 100000 - 200 - 6);
        grid.set(1, 20);
        check.due("x in a corner", grid.cell(0, 3), 100000 + 20);
        grid.set(2, 50);
        check.due("y in a corner with strong neighbours", grid.cell(0, 4), 100000 - 200 - 100);
    }

    private static void setOfTheFirstAndTheLastSetting(Check check) {
        NeedleGrid grid = new NeedleGrid();
        grid.set(0, 5);
        grid.set(2, 7);
        check.due("the first", grid.setting(0), 5);
        check.due("the second is as it was", grid.setting(1), 2);
        check.due("the last", grid.setting(2), 7);
    }

    private static void setToANewValue(Check check) {
        int[] most = {200, 20, 50};
        for (int setting = 0; setting <= 2; setting++) {
            NeedleGrid grid = new NeedleGrid();
            grid.set(setting, most[setting]);
            check.due("the most of " + setting, grid.setting(setting), most[setting]);
            grid.set(setting, 0);
            check.due("the least of " + setting, grid.setting(setting), 0);
            grid.set(setting, 1);
            check.due("one more", grid.setting(setting), 1);
        }
    }

    private static void setReturnsThePreviousValue(Check check) {
        NeedleGrid grid = new NeedleGrid();
        check.due("set(0, 200)", grid.set(0, 200), 20);
        check.due("set(1, 20)", grid.set(1, 20), 2);
        check.due("set(2, 50)", grid.set(2, 50), 3);
        check.due("set(0, 0)", grid.set(0, 0), 200);
        check.due("set(1, 0)", grid.set(1, 0), 20);
        check.due("set(2, 0)", grid.set(2, 0), 50);
        check.due("set(2, 0) again", grid.set(2, 0), 0);
    }

    private static void stepsGoBy(Check check) {
        NeedleGrid grid = Scenes.earthAlone();
        grid.needle(14, 2);
        grid.step(2);
        check.due("its direction behind two steps", grid.cell(14, 0), 4);
        check.due("steps so far", grid.count(0), 2);
        grid.step(3);
        check.due("its direction, at rest", grid.cell(14, 0), 6);
        check.due("steps so far, the one at rest, too", grid.count(0), 5);
    }

    private static void oneStepAndTheMost(Check check) {
        NeedleGrid grid = Scenes.swinging();
        grid.step(1);
        check.due("steps so far", grid.count(0), 1);
        check.due("the needle that swings", grid.cell(7, 0), 1);
        grid.step(50);
        check.due("steps so far", grid.count(0), 51);
        check.due("it is where it was, behind an even number", grid.cell(7, 0), 1);
        grid.step(49);
        check.due("steps so far", grid.count(0), 100);
        check.due("it is not, behind an odd one", grid.cell(7, 0), 0);
    }

    private static void stepReturnsTheTurns(Check check) {
        NeedleGrid grid = Scenes.earthAlone();
        check.due("at rest", grid.step(50), 0);
        for (int cell = 0; cell < 36; cell++) {
            grid.needle(cell, 2);
        }
        check.due("each once", grid.step(1), 36);
        check.due("each three times, then none", grid.step(50), 3 * 36);
        grid.needle(0, 5);
        grid.needle(35, 0);
        check.due("one once and one twice", grid.step(3), 3);
    }
}
