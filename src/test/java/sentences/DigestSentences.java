/** Promise 27, sentence by sentence; what the list names is given its least, its most, and NONE. */
final class DigestSentences {
    private DigestSentences() {
    }

    static void tell(Sentences all) {
        all.in("Promise 27");
        all.holds("Computes a hash of the whole state.", DigestSentences::hashOfTheWholeState);
        all.holds("The hash starts at 3167.", check -> due(check, "a new object", new NeedleGrid(), ""));
        all.holds("in order, the hash becomes 31 * hash + v, in long arithmetic with overflow.",
                DigestSentences::becomesThirtyOneTimes);
        all.holds("count(0) to count(8)", DigestSentences::counts);
        all.holds("the settings 0 to 2", DigestSentences::settings);
        all.holds("for each cell its numbers 0 to 7", DigestSentences::cells);
        all.holds("for each bar its numbers 0 to 2", DigestSentences::barsFromNoneToSix);
        all.holds("pointing in all directions", DigestSentences::directions);
        all.holds("restsIn", DigestSentences::rests);
        all.holds("points of the cells 0, 14 and 35 behind 9 steps", DigestSentences::pointsBehindNineSteps);
        all.holds("ifBar of the cell 14 with the direction 2 and the strength 20", DigestSentences::barIfItLay);
        all.holds("bestBar of the cell 20 with the direction 0 and the strength 30", DigestSentences::bestBars);
        all.holds("leastTurns of the cell 7", DigestSentences::turns);
        all.holds("the bits of obedience (as Double.doubleToLongBits)", DigestSentences::bitsOfObedience);
        all.holds("the length of the buffer and each of its character codes.", DigestSentences::emptyAndFullBuffer);
        all.holds("Returns the hash.", DigestSentences::sameHashEachTime);
    }

    private static void due(Check check, String state, NeedleGrid grid, String buffer) {
        Check.type(grid, buffer);
        check.due("digest of " + state, grid.digest(), Digests.byTheDocument(new Digests.Asked(grid), buffer));
    }

    /** Each change alone makes another hash. */
    private static void hashOfTheWholeState(Check check) {
        NeedleGrid grid = new NeedleGrid();
        long before = grid.digest();
        grid.friction(35, 11);
        check.due("a friction makes another", grid.digest() != before, true);
        grid.undo();
        check.due("undo makes the first again", grid.digest(), before);
        grid.append('x');
        check.due("a character makes another", grid.digest() != before, true);
        grid.clearBuffer();
        check.due("an empty buffer makes the first again", grid.digest(), before);
    }

    /** Of "x" and "y" the hashes are one apart, of "xx" and "yx" 31, as the characters come last. */
    private static void becomesThirtyOneTimes(Check check) {
        check.due("the last value is added", digestOf("y") - digestOf("x"), 1);
        check.due("the one before it 31 times", digestOf("yx") - digestOf("xx"), 31);
        check.due("the one before that 961 times", digestOf("yxx") - digestOf("xxx"), 961);
        long power = 1;
        for (int times = 0; times < 59; times++) {
            power = 31 * power;
        }
        String rest = "x".repeat(59);
        check.due("with overflow", digestOf("y" + rest) - digestOf("x" + rest), power);
    }

    private static long digestOf(String buffer) {
        NeedleGrid grid = new NeedleGrid();
        Check.type(grid, buffer);
        return grid.digest();
    }

    private static void counts(Check check) {
        NeedleGrid grid = Scenes.sixBars();
        grid.coil(50, 7);
        grid.hold(0, true);
        grid.step(50);
        due(check, "all counts above 0", grid, "");
        NeedleGrid needles = Scenes.earthAlone();
        for (int cell = 0; cell < 36; cell++) {
            needles.needle(cell, 2);
        }
        due(check, "all needles away from their aim", needles, "");
    }

    private static void settings(Check check) {
        int[] most = {200, 20, 50};
        NeedleGrid low = new NeedleGrid();
        NeedleGrid high = new NeedleGrid();
        for (int setting = 0; setting <= 2; setting++) {
            low.set(setting, 0);
            high.set(setting, most[setting]);
        }
        due(check, "the least settings", low, "");
        due(check, "the most settings", high, "");
    }

    private static void cells(Check check) {
        due(check, "cells without an aim", Scenes.withoutField(), "");
        NeedleGrid grid = new NeedleGrid();
        grid.friction(0, 0);
        grid.friction(35, 999);
        grid.hold(0, true);
        grid.hold(35, true);
        grid.needle(35, 7);
        grid.needle(0, 0);
        due(check, "cells at the ends", grid, "");
    }

    private static void barsFromNoneToSix(Check check) {
        NeedleGrid grid = new NeedleGrid();
        grid.bar(35, 7, 50);
        due(check, "one bar", grid, "");
        due(check, "six bars", Scenes.sixBars(), "");
        NeedleGrid none = new NeedleGrid();
        none.bar(35, 7, 50);
        none.unbar(35);
        due(check, "no bar any more", none, "");
    }

    private static void directions(Check check) {
        NeedleGrid grid = new NeedleGrid();
        for (int cell = 0; cell < 36; cell++) {
            grid.needle(cell, cell % 8);
        }
        due(check, "needles in all directions", grid, "");
    }

    private static void rests(Check check) {
        due(check, "rest in 101 steps", Scenes.restsBehind101(), "");
        NeedleGrid grid = Scenes.restsBehind101();
        grid.step(1);
        due(check, "rest in 100 steps", grid, "");
        due(check, "no rest", Scenes.swinging(), "");
    }

    /** On so long a way each of the three cells is once just about to turn behind 8 steps, and once behind 9. */
    private static void pointsBehindNineSteps(Check check) {
        for (int steps = 1; steps <= 50; steps++) {
            NeedleGrid grid = Scenes.restsBehind101();
            grid.step(steps);
            due(check, "needles that turn on, " + steps, grid, "");
        }
    }

    private static void barIfItLay(Check check) {
        NeedleGrid same = new NeedleGrid();
        same.bar(14, 2, 20);
        due(check, "ifBar of the bar that lies there", same, "");
        NeedleGrid weaker = Scenes.withoutField();
        weaker.bar(14, 6, 1);
        due(check, "ifBar that turns all aims", weaker, "");
    }

    /** A bar of strength 30 in the cell 0 gives the cell 20 the aim 0 against 47 upwards, and not against 48. */
    private static void bestBars(Check check) {
        for (int earth = 46; earth <= 49; earth++) {
            NeedleGrid narrow = Scenes.earthAlone();
            narrow.set(0, earth);
            due(check, "bars against the earth " + earth, narrow, "");
        }
        NeedleGrid none = Scenes.earthAlone();
        none.set(0, 200);
        none.set(1, 20);
        none.coil(50, 4);
        due(check, "no best bar", none, "");
        due(check, "the first bar", Scenes.withoutField(), "");
        NeedleGrid later = Scenes.withoutField();
        later.bar(21, 4, 50);
        due(check, "a later bar", later, "");
    }

    private static void turns(Check check) {
        NeedleGrid most = Scenes.earthAlone();
        most.set(1, 4);
        most.set(0, 199);
        most.coil(0, 2);
        due(check, "50 turns", most, "");
        NeedleGrid none = Scenes.withoutField();
        none.set(1, 0);
        due(check, "no turns that do", none, "");
        NeedleGrid beside = Scenes.withoutField();
        beside.bar(6, 4, 50);
        due(check, "turns that do at the cell 8, not at 7", beside, "");
    }

    private static void bitsOfObedience(Check check) {
        for (int obeying = 0; obeying <= 36; obeying++) {
            NeedleGrid grid = Scenes.earthAlone();
            for (int cell = obeying; cell < 36; cell++) {
                grid.needle(cell, 5);
            }
            due(check, "the share " + obeying + " of 36", grid, "");
        }
        NeedleGrid fewer = Scenes.withoutField();
        fewer.bar(14, 2, 50);
        due(check, "the share 13 of 35", fewer, "");
        due(check, "the share 1.0, as none has an aim", Scenes.withoutField(), "");
    }

    private static void emptyAndFullBuffer(Check check) {
        due(check, "an empty buffer", new NeedleGrid(), "");
        due(check, "the least code", new NeedleGrid(), "!");
        due(check, "the greatest code", new NeedleGrid(), "~");
        due(check, "a full buffer", new NeedleGrid(), "!~".repeat(30));
        NeedleGrid shorter = new NeedleGrid();
        Check.type(shorter, "x".repeat(60));
        shorter.clearBuffer();
        due(check, "a buffer that was longer", shorter, "22a");
    }

    private static void sameHashEachTime(Check check) {
        NeedleGrid grid = Scenes.swinging();
        long first = grid.digest();
        check.due("digest again", grid.digest(), first);
        check.due("digest of another such object", Scenes.swinging().digest(), first);
    }
}
