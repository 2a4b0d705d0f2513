/** The sections "Undo" and "Exceptions", sentence by sentence. */
final class UndoSentences {
    private static final String FULL = "x".repeat(60);

    private UndoSentences() {
    }

    static void tell(Sentences all) {
        all.in("Undo");
        all.holds("Each method that is marked \"undoable\"", UndoSentences::markedUndoable);
        all.holds("and does not throw an exception", UndoSentences::doesNotThrow);
        all.holds("saves the state from before it (also if it changes nothing)", UndoSentences::alsoIfItChangesNothing);
        all.holds("all, but the buffer", UndoSentences::allButTheBuffer);
        all.holds("and the saved states.", UndoSentences::allButTheSavedStates);
        all.holds("At most 6 states are saved", UndoSentences::atMostSix);
        all.holds("the oldest one is dropped first.", UndoSentences::theOldestFirst);
        all.in("Exceptions");
        all.holds("A call that throws an exception changes nothing.", UndoSentences::changesNothing);
        all.holds("If several exceptions apply, the one that is named first in the throws clause is thrown.",
                UndoSentences::theFirstOfSeveral);
        all.holds("The constants: `NONE = -1`: There is nothing to return.", UndoSentences::nothingToReturn);
        all.asksNothing("the interface says: ---- needles.");
        all.asksNothing("the interface says: ---- bars, coil.");
        all.asksNothing("the interface says: ---- texts.");
        all.holds("Ahead of the calls `cell`, `barOf`, `count`, `pointing`, `setting` the interface says: ---- looks; "
                + "nothing is changed.", UndoSentences::looksChangeNothing);
        all.holds("Ahead of the calls `restsIn`, `points`, `ifBar`, `bestBar`, `leastTurns`, `obedience`, `digest` the "
                + "interface says: ---- what would be; nothing is changed.", UndoSentences::whatWouldBeChangesNothing);
    }

    private static void markedUndoable(Check check) {
        NeedleGrid grid = new NeedleGrid();
        check.undoable(grid, "needle", () -> grid.needle(14, 2));
        check.undoable(grid, "friction", () -> grid.friction(14, 11));
        check.undoable(grid, "hold", () -> grid.hold(14, true));
        check.undoable(grid, "bar", () -> grid.bar(14, 0, 50));
        check.undoable(grid, "coil", () -> grid.coil(1, 1));
        check.undoable(grid, "set", () -> grid.set(0, 21));
        grid.needle(0, 2);
        check.undoable(grid, "swap", () -> grid.swap(0, 35));
        check.undoable(grid, "step", () -> grid.step(1));
        grid.bar(0, 0, 50);
        check.undoable(grid, "unbar", () -> grid.unbar(0));
        NeedleGrid others = new NeedleGrid();
        Check.type(others, "22a20");
        others.bars();
        check.due("bars saves a state", others.count(8), 1);
        others.append('x');
        others.clearBuffer();
        check.due("append and clearBuffer save none", others.count(8), 1);
        others.undo();
        check.due("undo saves none", others.count(8), 0);
        check.due("no bars behind undo", others.count(1), 0);
    }

    private static void doesNotThrow(Check check) {
        NeedleGrid grid = new NeedleGrid();
        check.outOfRange(grid, "needle", () -> grid.needle(0, 8));
        check.outOfRange(grid, "friction", () -> grid.friction(0, 1000));
        check.noSuch(grid, "hold", () -> grid.hold(36, true));
        check.noSuch(grid, "swap", () -> grid.swap(0, 36));
        check.outOfRange(grid, "bar", () -> grid.bar(0, 0, 51));
        check.wrongState(grid, "unbar", () -> grid.unbar(0));
        check.outOfRange(grid, "coil", () -> grid.coil(51, 0));
        check.outOfRange(grid, "set", () -> grid.set(0, 201));
        check.outOfRange(grid, "step", () -> grid.step(51));
        check.outOfRange(grid, "bars", grid::bars);
        check.due("no state is saved", grid.count(8), 0);
        check.wrongState(grid, "undo", grid::undo);
    }

    private static void alsoIfItChangesNothing(Check check) {
        NeedleGrid grid = new NeedleGrid();
        check.undoable(grid, "needle", () -> grid.needle(14, 6));
        check.undoable(grid, "friction", () -> grid.friction(14, 10));
        check.undoable(grid, "hold", () -> grid.hold(14, false));
        check.undoable(grid, "swap", () -> grid.swap(14, 14));
        check.undoable(grid, "swap of equal needles", () -> grid.swap(0, 35));
        check.undoable(grid, "coil", () -> grid.coil(0, 0));
        check.undoable(grid, "set", () -> grid.set(0, 20));
        check.undoable(grid, "step at rest", () -> grid.step(1));
        grid.bar(14, 0, 20);
        check.undoable(grid, "bar", () -> grid.bar(14, 0, 20));
        Check.type(grid, "22a20");
        check.due("bars", grid.bars(), 1);
        check.due("saved states behind bars", grid.count(8), 2);
        check.due("undo", grid.undo(), 1);
    }

    private static void allButTheBuffer(Check check) {
        NeedleGrid grid = new NeedleGrid();
        grid.bar(35, 7, 9);
        Check.type(grid, "22a");
        grid.needle(0, 0);
        grid.append('2');
        grid.undo();
        check.due("what was typed behind the call stays", grid.firstError(), 4);
        grid.bars();
        grid.undo();
        check.due("what bars cleared stays cleared", grid.clearBuffer(), 0);
        check.due("but the bar is back", grid.barOf(0, 0), 35);
    }

    /** Undo goes on to the state before; it does not come back to the one that it left. */
    private static void allButTheSavedStates(Check check) {
        NeedleGrid grid = new NeedleGrid();
        grid.friction(0, 1);
        grid.friction(0, 2);
        grid.friction(0, 3);
        check.due("undo", grid.undo(), 2);
        check.due("friction", grid.cell(0, 1), 2);
        check.due("undo", grid.undo(), 1);
        check.due("friction", grid.cell(0, 1), 1);
        grid.friction(0, 4);
        check.due("saved states", grid.count(8), 2);
        grid.undo();
        check.due("friction", grid.cell(0, 1), 1);
        check.due("undo", grid.undo(), 0);
        check.due("friction", grid.cell(0, 1), 10);
    }

    private static void atMostSix(Check check) {
        NeedleGrid grid = new NeedleGrid();
        for (int call = 1; call <= 20; call++) {
            grid.friction(0, 100 + call);
            check.due("saved states", grid.count(8), Math.min(call, 6));
        }
        for (int left = 5; left >= 0; left--) {
            check.due("undo", grid.undo(), left);
        }
        check.wrongState(grid, "a seventh undo", grid::undo);
        grid.friction(0, 1);
        check.due("one again", grid.count(8), 1);
    }

    /** Fourteen calls go round the six saved states more than twice; some are undone on the way. */
    private static void theOldestFirst(Check check) {
        NeedleGrid grid = new NeedleGrid();
        for (int friction = 1; friction <= 7; friction++) {
            grid.friction(0, friction);
        }
        grid.undo();
        grid.undo();
        check.due("friction behind two undos", grid.cell(0, 1), 5);
        for (int friction = 11; friction <= 17; friction++) {
            grid.friction(0, friction);
        }
        for (int friction = 16; friction >= 11; friction--) {
            grid.undo();
            check.due("friction", grid.cell(0, 1), friction);
        }
        check.wrongState(grid, "undo to before that", grid::undo);
        check.due("the oldest one that was left", grid.cell(0, 1), 11);
    }

    /** With six bars, six saved states and a full buffer, every call is refused in each way that is open. */
    private static void changesNothing(Check check) {
        NeedleGrid grid = Scenes.sixBars();
        Check.type(grid, FULL);
        refuseNeedles(check, grid);
        refuseBarsAndTexts(check, grid);
        refuseLooks(check, grid);
        check.due("the buffer is full", grid.clearBuffer(), 60);
        for (int left = 5; left >= 0; left--) {
            check.due("undo", grid.undo(), left);
            check.due("bars behind undo", grid.count(1), left);
        }
        check.wrongState(grid, "undo", grid::undo);
    }

    private static void refuseNeedles(Check check, NeedleGrid grid) {
        check.noSuch(grid, "needle", () -> grid.needle(36, 0));
        check.outOfRange(grid, "needle", () -> grid.needle(0, 8));
        check.noSuch(grid, "friction", () -> grid.friction(36, 0));
        check.outOfRange(grid, "friction", () -> grid.friction(0, 1000));
        check.noSuch(grid, "hold", () -> grid.hold(36, true));
        check.noSuch(grid, "swap of none with one", () -> grid.swap(36, 0));
        check.noSuch(grid, "swap of one with none", () -> grid.swap(0, 36));
    }

    private static void refuseBarsAndTexts(Check check, NeedleGrid grid) {
        check.noSuch(grid, "bar", () -> grid.bar(36, 1, 1));
        check.outOfRange(grid, "bar, direction", () -> grid.bar(0, 8, 1));
        check.outOfRange(grid, "bar, strength", () -> grid.bar(0, 1, 51));
        check.wrongState(grid, "bar", () -> grid.bar(35, 1, 1));
        check.noSuch(grid, "unbar", () -> grid.unbar(36));
        check.wrongState(grid, "unbar", () -> grid.unbar(35));
        check.outOfRange(grid, "coil, turns", () -> grid.coil(51, 1));
        check.outOfRange(grid, "coil, direction", () -> grid.coil(1, 8));
        check.noSuch(grid, "set", () -> grid.set(3, 1));
        check.outOfRange(grid, "set", () -> grid.set(1, 21));
        check.outOfRange(grid, "step", () -> grid.step(51));
        check.outOfRange(grid, "append", () -> grid.append(127));
        check.wrongState(grid, "append", () -> grid.append('a'));
        check.outOfRange(grid, "bars", grid::bars);
    }

    private static void refuseLooks(Check check, NeedleGrid grid) {
        check.noSuch(grid, "cell", () -> grid.cell(36, 0));
        check.outOfRange(grid, "cell", () -> grid.cell(0, 8));
        check.outOfRange(grid, "barOf, place", () -> grid.barOf(-1, 0));
        check.outOfRange(grid, "barOf, what", () -> grid.barOf(0, 3));
        check.outOfRange(grid, "count", () -> grid.count(9));
        check.outOfRange(grid, "pointing", () -> grid.pointing(8));
        check.noSuch(grid, "setting", () -> grid.setting(3));
        check.noSuch(grid, "points", () -> grid.points(36, 1));
        check.outOfRange(grid, "points", () -> grid.points(0, 101));
        check.noSuch(grid, "ifBar", () -> grid.ifBar(36, 1, 1));
        check.outOfRange(grid, "ifBar, direction", () -> grid.ifBar(0, 8, 1));
        check.outOfRange(grid, "ifBar, strength", () -> grid.ifBar(0, 1, 51));
        check.noSuch(grid, "bestBar", () -> grid.bestBar(36, 1, 1));
        check.outOfRange(grid, "bestBar, direction", () -> grid.bestBar(0, 8, 1));
        check.outOfRange(grid, "bestBar, strength", () -> grid.bestBar(0, 1, 51));
        check.noSuch(grid, "leastTurns", () -> grid.leastTurns(36));
    }

    private static void theFirstOfSeveral(Check check) {
        NeedleGrid grid = Scenes.sixBars();
        Check.type(grid, FULL);
        check.noSuch(grid, "needle", () -> grid.needle(36, 8));
        check.noSuch(grid, "friction", () -> grid.friction(-1, 1000));
        check.noSuch(grid, "bar, all three", () -> grid.bar(36, 8, 51));
        check.noSuch(grid, "bar, cell and strength", () -> grid.bar(-1, 0, 0));
        check.noSuch(grid, "bar, cell and six bars", () -> grid.bar(36, 0, 1));
        check.outOfRange(grid, "bar, direction and six bars", () -> grid.bar(35, 8, 1));
        check.outOfRange(grid, "bar, strength and six bars", () -> grid.bar(35, 0, 0));
        check.noSuch(grid, "unbar, no cell and so no bar", () -> grid.unbar(36));
        check.noSuch(grid, "set", () -> grid.set(3, -1));
        check.noSuch(grid, "set", () -> grid.set(-1, 201));
        check.outOfRange(grid, "append", () -> grid.append(32));
        check.noSuch(grid, "cell", () -> grid.cell(36, 8));
        check.noSuch(grid, "points", () -> grid.points(-1, -1));
        check.noSuch(grid, "ifBar", () -> grid.ifBar(36, 8, 0));
        check.noSuch(grid, "bestBar", () -> grid.bestBar(36, 8, 0));
    }

    private static void nothingToReturn(Check check) {
        check.due("NONE", NeedleGrid.NONE, -1);
        NeedleGrid grid = Scenes.withoutField();
        check.due("no aim", grid.cell(0, 5), -1);
        check.due("not away from it", grid.cell(0, 7), -1);
        check.due("no bar", grid.barOf(0, 0), -1);
        check.due("no rest", Scenes.swinging().restsIn(), -1);
        grid.set(0, 200);
        check.due("no best bar", grid.bestBar(20, 2, 1), -1);
        grid.coil(0, 2);
        check.due("no turns", grid.leastTurns(0), -1);
    }

    /** A grid with a full history, whose states differ, and something in the buffer. */
    private static NeedleGrid full() {
        NeedleGrid grid = Scenes.sixBars();
        grid.coil(9, 3);
        grid.step(3);
        Check.type(grid, "22a20;");
        return grid;
    }

    private static void sameAsUntouched(Check check, NeedleGrid grid) {
        NeedleGrid untouched = full();
        check.due("digest", grid.digest(), untouched.digest());
        while (untouched.count(8) > 0) {
            check.due("undo", grid.undo(), untouched.undo());
            check.due("digest behind undo", grid.digest(), untouched.digest());
        }
    }

    private static void looksChangeNothing(Check check) {
        NeedleGrid grid = full();
        for (int what = 0; what <= 7; what++) {
            grid.cell(14, what);
            grid.pointing(what);
            grid.count(what);
        }
        grid.count(8);
        grid.barOf(5, 2);
        grid.barOf(6, 0);
        grid.setting(2);
        sameAsUntouched(check, grid);
    }

    private static void whatWouldBeChangesNothing(Check check) {
        NeedleGrid grid = full();
        grid.restsIn();
        grid.points(14, 100);
        grid.ifBar(0, 4, 50);
        grid.ifBar(35, 4, 50);
        grid.bestBar(14, 5, 50);
        grid.leastTurns(14);
        grid.obedience();
        grid.digest();
        sameAsUntouched(check, grid);
    }
}
