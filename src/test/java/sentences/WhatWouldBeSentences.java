/** Promises 21 to 26, sentence by sentence. */
final class WhatWouldBeSentences {
    private WhatWouldBeSentences() {
    }

    static void tell(Sentences all) {
        all.in("Promise 21");
        all.holds("Tells when the grid comes to rest.", WhatWouldBeSentences::comesToRest);
        all.holds("Returns behind how many steps, 0 to 100, it would be at rest", WhatWouldBeSentences::restsByAHundred);
        all.holds("NONE if not by 100.", WhatWouldBeSentences::restsNotByAHundred);
        tellPoints(all);
        tellIfBar(all);
        tellBestBar(all);
        tellLeastTurns(all);
        all.in("Promise 26");
        all.holds("Returns how well the needles obey.", WhatWouldBeSentences::obedienceOfAllAndNone);
        all.holds("Returns the needles that point to their aim, as a double, divided by those that have an aim",
                WhatWouldBeSentences::obedienceIsAShare);
        all.holds("1.0 if none has.", WhatWouldBeSentences::obedienceWithoutAims);
    }

    private static void tellPoints(Sentences all) {
        all.in("Promise 22");
        all.holds("Tells where a needle would point.", WhatWouldBeSentences::needleWouldPoint);
        all.holds("`cell`: 0 to 35", WhatWouldBeSentences::pointsOfTheFirstAndTheLastCell);
        all.holds("`steps`: 0 to 100", WhatWouldBeSentences::noStepsAndTheMost);
        all.holds("Returns its direction behind so many steps.", WhatWouldBeSentences::pointsAsStepsDo);
        all.holds("Throws `IndexOutOfBoundsException` if there is no such cell", check -> {
            NeedleGrid grid = Scenes.swinging();
            check.noSuchBeyond(grid, "points", 0, 35, cell -> grid.points(cell, 0));
        });
        all.holds("Throws `IllegalArgumentException` if steps is out of range", check -> {
            NeedleGrid grid = Scenes.swinging();
            check.outOfRangeBeyond(grid, "points", 0, 100, steps -> grid.points(7, steps));
        });
    }

    private static void tellIfBar(Sentences all) {
        all.in("Promise 23");
        all.holds("Tells what a bar would do.", WhatWouldBeSentences::ifBarLaysNone);
        all.holds("`cell`: 0 to 35", WhatWouldBeSentences::ifBarInTheFirstAndTheLastCell);
        all.holds("`direction`: 0 to 7", WhatWouldBeSentences::ifBarToEachDirection);
        all.holds("`strength`: 1 to 50", WhatWouldBeSentences::ifBarOfTheLeastAndTheMostStrength);
        all.holds("Returns how many needles would have another aim than now", WhatWouldBeSentences::anotherAim);
        all.holds("(also one for none, or none for one)", WhatWouldBeSentences::oneForNoneAndNoneForOne);
        all.holds("if it lay there, in place of the one that lies there", WhatWouldBeSentences::ifBarInPlaceOfAnother);
        all.holds("(6 bars do not matter).", WhatWouldBeSentences::ifBarAsASeventh);
        all.holds("Throws `IndexOutOfBoundsException` if there is no such cell", check -> {
            NeedleGrid grid = new NeedleGrid();
            check.noSuchBeyond(grid, "ifBar", 0, 35, cell -> grid.ifBar(cell, 0, 1));
        });
        all.holds("Throws `IllegalArgumentException` if direction or strength is out of range", check -> {
            NeedleGrid grid = new NeedleGrid();
            check.outOfRangeBeyond(grid, "ifBar, direction", 0, 7, direction -> grid.ifBar(0, direction, 1));
            check.outOfRangeBeyond(grid, "ifBar, strength", 1, 50, strength -> grid.ifBar(0, 0, strength));
            check.outOfRange(grid, "ifBar, both", () -> grid.ifBar(0, 8, 51));
        });
    }

    private static void tellBestBar(Sentences all) {
        all.in("Promise 24");
        all.holds("Finds where a bar had best lie, so that a needle points as wanted.",
                WhatWouldBeSentences::bestBarLaysNone);
        all.holds("`cell`: the cell of the needle, 0 to 35", WhatWouldBeSentences::bestBarForTheFirstAndTheLastCell);
        all.holds("`direction`: 0 to 7: the aim that is wanted", WhatWouldBeSentences::bestBarForEachAim);
        all.holds("`strength`: 1 to 50", WhatWouldBeSentences::bestBarOfTheLeastAndTheMostStrength);
        all.holds("Returns the least number of the cell times 8 and the direction, together",
                WhatWouldBeSentences::theLeastNumberFromTheFirstToTheLast);
        all.holds("of a bar of this strength, in place of the one that lies there, with which the cell of the needle "
                + "would have this aim", WhatWouldBeSentences::bestBarInPlaceOfAnother);
        all.holds("(6 bars do not matter", WhatWouldBeSentences::bestBarAsASeventh);
        all.holds("a bar in that cell itself is tried, too)", WhatWouldBeSentences::bestBarInTheNeedlesCell);
        all.holds("NONE if there is none.", WhatWouldBeSentences::noBestBar);
        all.holds("Throws `IndexOutOfBoundsException` if there is no such cell", check -> {
            NeedleGrid grid = new NeedleGrid();
            check.noSuchBeyond(grid, "bestBar", 0, 35, cell -> grid.bestBar(cell, 0, 1));
        });
        all.holds("Throws `IllegalArgumentException` if direction or strength is out of range", check -> {
            NeedleGrid grid = new NeedleGrid();
            check.outOfRangeBeyond(grid, "bestBar, direction", 0, 7, direction -> grid.bestBar(0, direction, 1));
            check.outOfRangeBeyond(grid, "bestBar, strength", 1, 50, strength -> grid.bestBar(0, 0, strength));
            check.outOfRange(grid, "bestBar, both", () -> grid.bestBar(0, 8, 51));
        });
    }

    private static void tellLeastTurns(Sentences all) {
        all.in("Promise 25");
        all.holds("Finds the least turns of the coil, so that a needle points along it.",
                WhatWouldBeSentences::leastTurnsTurnsNone);
        all.holds("`cell`: 0 to 35", WhatWouldBeSentences::leastTurnsForTheFirstAndTheLastCell);
        all.holds("Returns the least turns, 0 to 50", WhatWouldBeSentences::leastTurnsFromNoneToTheMost);
        all.holds("with which the aim of the cell is the direction of the coil",
                WhatWouldBeSentences::leastTurnsForTheCoilsDirection);
        all.holds("NONE if there are none.", WhatWouldBeSentences::noLeastTurns);
        all.holds("Throws `IndexOutOfBoundsException` if there is no such cell", check -> {
            NeedleGrid grid = new NeedleGrid();
            check.noSuchBeyond(grid, "leastTurns", 0, 35, grid::leastTurns);
        });
    }

    private static void comesToRest(Check check) {
        NeedleGrid grid = Scenes.earthAlone();
        grid.needle(14, 2);
        for (int left = 4; left >= 1; left--) {
            check.due("steps to come", grid.restsIn(), left);
            check.due("needles that would turn", grid.count(5), 1);
            grid.step(1);
        }
        check.due("at rest", grid.restsIn(), 0);
        check.due("no needle would turn", grid.count(5), 0);
        check.due("at rest still", grid.step(1), 0);
    }

    private static void restsByAHundred(Check check) {
        check.due("0", new NeedleGrid().restsIn(), 0);
        NeedleGrid one = Scenes.earthAlone();
        one.needle(35, 7);
        check.due("1", one.restsIn(), 1);
        NeedleGrid grid = Scenes.restsBehind101();
        grid.step(1);
        check.due("100", grid.restsIn(), 100);
        grid.step(1);
        check.due("99", grid.restsIn(), 99);
    }

    private static void restsNotByAHundred(Check check) {
        NeedleGrid grid = Scenes.restsBehind101();
        check.due("101", grid.restsIn(), NeedleGrid.NONE);
        grid.step(50);
        check.due("51 of them are left", grid.restsIn(), 51);
        check.due("for ever", Scenes.swinging().restsIn(), NeedleGrid.NONE);
    }

    private static void needleWouldPoint(Check check) {
        NeedleGrid grid = Scenes.earthAlone();
        grid.needle(14, 2);
        int[] due = {2, 3, 4, 5, 6, 6};
        for (int steps = 0; steps < due.length; steps++) {
            check.due("points(14, " + steps + ")", grid.points(14, steps), due[steps]);
        }
        check.due("it points where it did", grid.cell(14, 0), 2);
    }

    private static void pointsOfTheFirstAndTheLastCell(Check check) {
        NeedleGrid grid = Scenes.earthAlone();
        grid.needle(0, 4);
        grid.needle(35, 1);
        check.due("the first, now", grid.points(0, 0), 4);
        check.due("the first, a step later", grid.points(0, 1), 5);
        check.due("the last, now", grid.points(35, 0), 1);
        check.due("the last, a step later", grid.points(35, 1), 0);
        check.due("the last, two steps later", grid.points(35, 2), 7);
    }

    private static void noStepsAndTheMost(Check check) {
        NeedleGrid grid = Scenes.swinging();
        check.due("behind no step", grid.points(7, 0), 0);
        check.due("behind 1", grid.points(7, 1), 1);
        check.due("behind 99", grid.points(7, 99), 1);
        check.due("behind 100", grid.points(7, 100), 0);
    }

    private static void pointsAsStepsDo(Check check) {
        int[] cells = {0, 14, 35};
        for (int steps = 1; steps <= 50; steps += 7) {
            NeedleGrid ahead = Scenes.restsBehind101();
            NeedleGrid behind = Scenes.restsBehind101();
            behind.step(steps);
            for (int cell : cells) {
                check.due("points(" + cell + ", " + steps + ")", ahead.points(cell, steps), behind.cell(cell, 0));
            }
        }
        NeedleGrid coiled = Scenes.earthAlone();
        coiled.coil(50, 1);
        coiled.bar(12, 1, 50);
        int[] due = {6, 7, 0, 1, 1};
        for (int steps = 0; steps < due.length; steps++) {
            check.due("with a coil and a bar, behind " + steps, coiled.points(13, steps), due[steps]);
        }
    }

    private static void ifBarLaysNone(Check check) {
        NeedleGrid grid = Scenes.withoutField();
        check.due("ifBar", grid.ifBar(14, 0, 50), 35);
        check.due("bars", grid.count(1), 0);
        check.due("field", grid.cell(15, 3), 100000);
        check.due("saved states", grid.count(8), 2);
    }

    /** Against the earth's 99 a bar downwards of strength 1 turns the aims of the cells just above and below it. */
    private static NeedleGrid againstTheEarth() {
        NeedleGrid grid = Scenes.earthAlone();
        grid.set(0, 99);
        return grid;
    }

    private static void ifBarInTheFirstAndTheLastCell(Check check) {
        NeedleGrid grid = againstTheEarth();
        check.due("the first: one below", grid.ifBar(0, 2, 1), 1);
        check.due("the last: one above", grid.ifBar(35, 2, 1), 1);
        check.due("one between: one above, one below", grid.ifBar(14, 2, 1), 2);
        grid.bar(6, 2, 1);
        check.due("the first, beside another bar", grid.ifBar(0, 2, 1), 1);
    }

    /** Along the bar the aims would be those of the coil, and beside it the opposite ones, or the other way round. */
    private static void ifBarToEachDirection(Check check) {
        int[] beside = {13, 12, 13, 13, 13, 12, 13, 13};
        for (int direction = 0; direction <= 7; direction++) {
            NeedleGrid grid = Scenes.withoutField();
            grid.coil(1, direction);
            check.due("with the coil to " + direction, grid.ifBar(14, direction, 50), beside[direction]);
            int against = (direction + 4) % 8;
            check.due("against it, to " + against, grid.ifBar(14, against, 50), 35 - beside[direction]);
        }
    }

    private static void ifBarOfTheLeastAndTheMostStrength(Check check) {
        NeedleGrid grid = againstTheEarth();
        check.due("the least", grid.ifBar(14, 2, 1), 2);
        check.due("the most: the 22 cells along it", grid.ifBar(14, 2, 50), 22);
    }

    private static void anotherAim(Check check) {
        NeedleGrid grid = againstTheEarth();
        check.due("none", grid.ifBar(14, 6, 1), 0);
        check.due("two", grid.ifBar(14, 2, 1), 2);
        grid.needle(8, 2);
        grid.hold(20, true);
        check.due("wherever the needles point, held or not", grid.ifBar(14, 2, 1), 2);
        NeedleGrid empty = Scenes.withoutField();
        empty.coil(1, 2);
        check.due("the cells beside it would aim up, not down", empty.ifBar(14, 2, 50), 13);
        check.due("neighbours to the right are stronger", Scenes.neighboursAlone(0).ifBar(14, 0, 1), 0);
        check.due("neighbours up are stronger", Scenes.neighboursAlone(6).ifBar(14, 6, 1), 0);
    }

    private static void oneForNoneAndNoneForOne(Check check) {
        check.due("all but its own cell get one", Scenes.withoutField().ifBar(14, 0, 50), 35);
        NeedleGrid grid = Scenes.earthAlone();
        grid.set(0, 100);
        check.due("two would lose theirs: 100 against 100", grid.ifBar(14, 2, 1), 2);
        grid.bar(14, 2, 1);
        check.due("one of them has none", grid.cell(8, 5), NeedleGrid.NONE);
        check.due("two would get one, and four lose theirs", grid.ifBar(14, 2, 2), 6);
        check.due("none for none is no other", grid.ifBar(14, 2, 1), 0);
    }

    private static void ifBarInPlaceOfAnother(Check check) {
        NeedleGrid grid = Scenes.withoutField();
        grid.bar(14, 0, 50);
        check.due("the same bar", grid.ifBar(14, 0, 50), 0);
        check.due("a weaker one to the same side", grid.ifBar(14, 0, 1), 0);
        check.due("a weaker one to the other side", grid.ifBar(14, 4, 1), 35);
        check.due("it lies there still", grid.barOf(0, 2), 50);
    }

    /** The six are far off: against 1200 upwards they turn nothing, and neither what the seventh turns. */
    private static void ifBarAsASeventh(Check check) {
        NeedleGrid grid = Scenes.earthAlone();
        grid.set(0, 200);
        grid.set(1, 20);
        grid.coil(50, 6);
        for (int cell = 30; cell <= 35; cell++) {
            grid.bar(cell, 0, 1);
        }
        check.due("six bars", grid.count(1), 6);
        check.due("a seventh would turn the aims above and below it", grid.ifBar(14, 2, 13), 2);
        check.due("six bars still", grid.count(1), 6);
    }

    private static void bestBarLaysNone(Check check) {
        NeedleGrid grid = Scenes.withoutField();
        check.due("bestBar", grid.bestBar(1, 0, 50), 0);
        check.due("bars", grid.count(1), 0);
        check.due("field", grid.cell(1, 3), 100000);
        check.due("saved states", grid.count(8), 2);
    }

    /** Against 1200 upwards a bar of strength 13 must lie in the cell above or below the needle, and point down. */
    private static void bestBarForTheFirstAndTheLastCell(Check check) {
        NeedleGrid grid = Scenes.earthAlone();
        grid.set(0, 200);
        grid.set(1, 20);
        grid.coil(50, 6);
        check.due("the first cell: below it", grid.bestBar(0, 2, 13), 6 * 8 + 2);
        check.due("the last cell: above it", grid.bestBar(35, 2, 13), 29 * 8 + 2);
    }

    private static void bestBarForEachAim(Check check) {
        NeedleGrid grid = Scenes.withoutField();
        int[] due = {0, 1, 6, 3, 4, 5, 2, 7};
        for (int aim = 0; aim <= 7; aim++) {
            check.due("bestBar(1, " + aim + ", 1)", grid.bestBar(1, aim, 1), due[aim]);
        }
    }

    private static void bestBarOfTheLeastAndTheMostStrength(Check check) {
        NeedleGrid grid = againstTheEarth();
        check.due("the least does: 100 against 99", grid.bestBar(6, 2, 1), 2);
        check.due("the most does", grid.bestBar(6, 2, 50), 2);
        grid.set(0, 100);
        check.due("100 against 100 does not", grid.bestBar(6, 2, 1), NeedleGrid.NONE);
    }

    private static void theLeastNumberFromTheFirstToTheLast(Check check) {
        NeedleGrid empty = Scenes.withoutField();
        check.due("the first cell, the first direction", empty.bestBar(1, 0, 1), 0);
        check.due("the first cell, the last direction", empty.bestBar(1, 7, 1), 7);
        NeedleGrid grid = Scenes.withoutField();
        grid.bar(35, 3, 50);
        check.due("the last cell, the last direction", grid.bestBar(34, 7, 1), 35 * 8 + 7);
        grid.bar(35, 0, 50);
        check.due("the last cell, beside it", grid.bestBar(34, 6, 1), 35 * 8 + 2);
        NeedleGrid earth = Scenes.earthAlone();
        earth.set(0, 200);
        check.due("one between: just above", earth.bestBar(20, 2, 3), 14 * 8 + 2);
    }

    private static void bestBarInPlaceOfAnother(Check check) {
        NeedleGrid grid = Scenes.withoutField();
        grid.bar(0, 4, 50);
        check.due("the weak one alone, not both", grid.bestBar(1, 0, 1), 0);
        check.due("the strong one lies there still", grid.barOf(0, 2), 50);
        check.due("to the strong one's side, too", grid.bestBar(1, 4, 1), 4);
        NeedleGrid far = Scenes.withoutField();
        far.bar(35, 3, 50);
        check.due("a bar elsewhere stays", far.bestBar(34, 3, 1), 0);
        check.due("any, with neighbours to the left", Scenes.neighboursAlone(4).bestBar(14, 4, 1), 0);
        check.due("any, with neighbours up", Scenes.neighboursAlone(6).bestBar(14, 6, 1), 0);
    }

    private static void bestBarAsASeventh(Check check) {
        NeedleGrid grid = Scenes.withoutField();
        for (int cell = 30; cell <= 35; cell++) {
            grid.bar(cell, 0, 1);
        }
        check.due("a seventh in the first cell", grid.bestBar(1, 0, 50), 0);
        check.due("to the last direction", grid.bestBar(1, 7, 50), 7);
        check.due("six bars still", grid.count(1), 6);
    }

    /** The earth's aim is wanted; were the cell 0 not tried, it would be the bar in the cell 1 that points down. */
    private static void bestBarInTheNeedlesCell(Check check) {
        NeedleGrid grid = Scenes.earthAlone();
        check.due("a bar in the cell itself changes nothing", grid.bestBar(0, 6, 50), 0);
        grid.bar(0, 3, 50);
        check.due("also in place of another", grid.bestBar(0, 6, 50), 0);
        check.due("it does not help to another aim", grid.bestBar(0, 2, 50), 8 + 6);
    }

    private static void noBestBar(Check check) {
        NeedleGrid grid = Scenes.earthAlone();
        grid.set(0, 200);
        for (int cell = 0; cell < 36; cell++) {
            check.due("bestBar(" + cell + ", 2, 2)", grid.bestBar(cell, 2, 2), NeedleGrid.NONE);
        }
    }

    private static void leastTurnsTurnsNone(Check check) {
        NeedleGrid grid = Scenes.withoutField();
        grid.coil(7, 3);
        check.due("leastTurns", grid.leastTurns(14), 1);
        check.due("turns", grid.count(2), 7);
        check.due("field", grid.cell(14, 3), 100000 - 14);
        check.due("saved states", grid.count(8), 3);
    }

    /** A bar between the two turns the aim of one alone. */
    private static void leastTurnsForTheFirstAndTheLastCell(Check check) {
        NeedleGrid grid = Scenes.withoutField();
        grid.set(1, 20);
        grid.coil(0, 4);
        grid.bar(1, 0, 1);
        check.due("the first: above 100 to the right", grid.leastTurns(0), 6);
        check.due("the last, beside the bar: no turns", grid.leastTurns(35), 0);
        grid.coil(0, 0);
        check.due("the first, the other way: no turns", grid.leastTurns(0), 0);
        check.due("the last: above 1 to the left", grid.leastTurns(35), 1);
    }

    private static void leastTurnsFromNoneToTheMost(Check check) {
        NeedleGrid grid = Scenes.earthAlone();
        grid.coil(50, 6);
        check.due("none", grid.leastTurns(14), 0);
        grid.set(1, 4);
        grid.set(0, 199);
        grid.coil(0, 2);
        check.due("50 times 4 against 199", grid.leastTurns(14), 50);
        grid.set(0, 195);
        check.due("49 times 4 against 195", grid.leastTurns(14), 49);
        check.due("one", Scenes.withoutField().leastTurns(14), 1);
    }

    private static void leastTurnsForTheCoilsDirection(Check check) {
        NeedleGrid grid = Scenes.earthAlone();
        grid.set(0, 12);
        grid.coil(50, 0);
        check.due("right: 12 * 12 is above 5 * 28, and at most 5 * 30", grid.leastTurns(14), 15);
        grid.coil(0, 4);
        check.due("left, as many, whatever its turns are", grid.leastTurns(14), 15);
        grid.coil(0, 7);
        check.due("right and up: 12 * 8 is at most 5 * 20, 12 * 10 above 5 * 22", grid.leastTurns(14), 5);
        grid.coil(0, 1);
        check.due("right and down: 12 * (2n - 12) is above 5 * 2n", grid.leastTurns(14), 11);
        againstNeighbours(check, 0);
        againstNeighbours(check, 2);
    }

    private static void againstNeighbours(Check check, int direction) {
        NeedleGrid grid = Scenes.neighboursAlone((direction + 4) % 8);
        grid.set(1, 20);
        grid.coil(0, direction);
        check.due("to " + direction + ", 11 times 20 against 200 of the neighbours", grid.leastTurns(14), 11);
    }

    private static void noLeastTurns(Check check) {
        NeedleGrid grid = Scenes.earthAlone();
        grid.set(1, 4);
        grid.set(0, 200);
        grid.coil(0, 2);
        check.due("50 times 4 against 200: no aim", grid.leastTurns(14), NeedleGrid.NONE);
        grid.set(1, 0);
        check.due("a coil without strength", grid.leastTurns(14), NeedleGrid.NONE);
        grid.set(0, 0);
        check.due("no field at all", grid.leastTurns(14), NeedleGrid.NONE);
    }

    private static void obedienceOfAllAndNone(Check check) {
        NeedleGrid grid = Scenes.earthAlone();
        check.dueShare("all", grid.obedience(), 1.0);
        for (int cell = 0; cell < 36; cell++) {
            grid.needle(cell, 5);
            check.dueShare("none up to " + cell, grid.obedience(), (35.0 - cell) / 36.0);
        }
        check.dueShare("none", grid.obedience(), 0.0);
    }

    private static void obedienceIsAShare(Check check) {
        NeedleGrid grid = Scenes.withoutField();
        grid.bar(14, 2, 50);
        check.dueShare("13 of 35; the one in the bar's cell has no aim", grid.obedience(), 13.0 / 35.0);
        grid.needle(14, 2);
        check.dueShare("that one makes no difference", grid.obedience(), 13.0 / 35.0);
        grid.hold(0, true);
        grid.friction(1, 999);
        check.dueShare("held and rubbed ones count", grid.obedience(), 13.0 / 35.0);
        grid.needle(8, 2);
        check.dueShare("one more", grid.obedience(), 14.0 / 35.0);
    }

    private static void obedienceWithoutAims(Check check) {
        NeedleGrid grid = Scenes.withoutField();
        check.dueShare("none has an aim", grid.obedience(), 1.0);
        grid.needle(0, 0);
        check.dueShare("wherever they point", grid.obedience(), 1.0);
        grid.coil(1, 1);
        check.dueShare("all have one, and none points to it", grid.obedience(), 0.0);
    }
}
