/** Grids that several tests look at. */
final class Scenes {
    private Scenes() {
    }

    /** A grid whose field comes from bars and the coil alone, of which there are none yet. */
    static NeedleGrid withoutField() {
        NeedleGrid grid = new NeedleGrid();
        grid.set(0, 0);
        grid.set(2, 0);
        return grid;
    }

    /** A grid that knows no other field than the earth's, so that a needle turns no other. */
    static NeedleGrid earthAlone() {
        NeedleGrid grid = new NeedleGrid();
        grid.set(2, 0);
        return grid;
    }

    /** All needles point to one side, and each turns its neighbours by 50: 200 in the middle, 100 in the corners. */
    static NeedleGrid neighboursAlone(int direction) {
        NeedleGrid grid = new NeedleGrid();
        grid.set(0, 0);
        grid.set(2, 50);
        for (int cell = 0; cell < 36; cell++) {
            grid.needle(cell, direction);
        }
        return grid;
    }

    /** Six bars in the cells 0 to 5, pointing right, with the strengths 1 to 6. */
    static NeedleGrid sixBars() {
        NeedleGrid grid = new NeedleGrid();
        for (int cell = 0; cell < 6; cell++) {
            grid.bar(cell, 0, cell + 1);
        }
        return grid;
    }

    /**
     * Only the cells 0 and 1 are free, and only neighbours turn needles. The cell 1 sees nothing but the needle
     * of the cell 0, as those of 2 and 7 are opposite; the cell 0 turns from 0 to 1, and a step later 1 does.
     */
    static NeedleGrid follower() {
        NeedleGrid grid = heldByNeighboursAlone(0, 1);
        grid.needle(0, 0);
        grid.needle(1, 0);
        grid.needle(2, 0);
        grid.needle(7, 4);
        grid.needle(6, 2);
        return grid;
    }

    /**
     * Only the cells 7 and 8 are free. The other neighbours of each add up to nothing, so that each of the two
     * turns to where the other one points, and both swing for ever.
     */
    static NeedleGrid swinging() {
        NeedleGrid grid = heldByNeighboursAlone(7, 8);
        grid.needle(1, 1);
        grid.needle(6, 4);
        grid.needle(13, 6);
        grid.needle(2, 1);
        grid.needle(9, 4);
        grid.needle(14, 6);
        grid.needle(7, 0);
        grid.needle(8, 1);
        return grid;
    }

    /** Found by a search: it comes to rest behind 101 steps, and not before. */
    static NeedleGrid restsBehind101() {
        int[] needles = {2, 1, 0, 0, 0, 5, 7, 3, 4, 5, 3, 1, 6, 3, 0, 7, 5, 2,
            0, 4, 1, 1, 2, 6, 6, 6, 1, 2, 5, 5, 6, 2, 3, 0, 3, 5};
        int[] frictions = {17, 3, 8, 4, 15, 8, 8, 14, 7, 10, 4, 9, 17, 4, 17, 2, 1, 18,
            15, 2, 15, 10, 12, 18, 11, 4, 7, 17, 2, 2, 7, 13, 8, 5, 6, 1};
        NeedleGrid grid = new NeedleGrid();
        grid.set(0, 2);
        grid.set(2, 5);
        for (int cell = 0; cell < 36; cell++) {
            grid.needle(cell, needles[cell]);
            grid.friction(cell, frictions[cell]);
        }
        return grid;
    }

    private static NeedleGrid heldByNeighboursAlone(int one, int other) {
        NeedleGrid grid = new NeedleGrid();
        grid.set(0, 0);
        grid.set(2, 1);
        for (int cell = 0; cell < 36; cell++) {
            grid.hold(cell, cell != one && cell != other);
        }
        grid.friction(one, 0);
        grid.friction(other, 0);
        return grid;
    }
}
