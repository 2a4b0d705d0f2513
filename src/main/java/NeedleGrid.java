/** Compass needles on a grid of 6 rows of 6 cells, turned by the earth, bars, a coil and one another. */
public final class NeedleGrid {
    /** There is nothing to return. */
    public static final int NONE = -1;

    private static final int SIDE = 6;
    private static final int CELLS = SIDE * SIDE;
    private static final int DIRECTIONS = 8;
    private static final int LAST_DIRECTION = DIRECTIONS - 1;
    private static final int OPPOSITE = DIRECTIONS / 2;
    private static final int[] ACROSS = {1, 1, 0, -1, -1, -1, 0, 1};
    private static final int[] DOWN = {0, 1, 1, 1, 0, -1, -1, -1};

    private static final int MOST_FRICTION = 999;
    private static final int MOST_BARS = 6;
    private static final int MOST_STRENGTH = 50;
    private static final int MOST_TURNS = 50;
    private static final int MOST_STEPS = 50;
    private static final int MOST_STEPS_AHEAD = 100;
    private static final int MOST_CHARACTERS = 60;
    private static final int MOST_SAVED = 6;

    private static final int EARTH = 0;
    private static final int COIL_TURN = 1;
    private static final int NEIGHBOURS = 2;
    private static final int SETTINGS = 3;
    private static final int[] MOST_OF_SETTING = {200, 20, 50};

    /** Field numbers are returned with so much more, so that they are never below 0. */
    private static final int FIELD_OFFSET = 100000;

    private static final int CELL_NUMBERS = 8;
    private static final int BAR_NUMBERS = 3;
    private static final int COUNTS = 9;

    private static final long FIRST_HASH = 3167L;
    private static final int FRACTION_BITS = 52;
    private static final long FRACTION_UNIT = 1L << FRACTION_BITS;
    private static final int EXPONENT_OF_ONE = 1023;

    private final Grid now;
    /** Steps that only would be are played here; kept, so that no call makes a grid. */
    private final Grid trial;
    private final History history;
    private final BarText text;

    /** Creates a grid without bars, with an empty buffer. */
    public NeedleGrid() {
        now = new Grid();
        trial = new Grid();
        history = new History();
        text = new BarText();
    }

    // ---- needles

    /** Turns a needle by hand; returns its previous direction. Undoable. */
    public int needle(int cell, int direction) throws IndexOutOfBoundsException, IllegalArgumentException {
        requireCell(cell);
        requireDirection(direction);
        history.save(now);
        int previous = now.directions[cell];
        now.directions[cell] = direction;
        now.measureField();
        return previous;
    }

    /** Changes the friction of a cell; returns the previous one. Undoable. */
    public int friction(int cell, int friction) throws IndexOutOfBoundsException, IllegalArgumentException {
        requireCell(cell);
        requireBetween(friction, 0, MOST_FRICTION);
        history.save(now);
        int previous = now.frictions[cell];
        now.frictions[cell] = friction;
        return previous;
    }

    /** Holds a needle fast, or lets it go; returns 1 if it was held, otherwise 0. Undoable. */
    public int hold(int cell, boolean isHeld) throws IndexOutOfBoundsException {
        requireCell(cell);
        history.save(now);
        int previous = now.held[cell] ? 1 : 0;
        now.held[cell] = isHeld;
        return previous;
    }

    /** Swaps the needles of two cells; returns the direction that the first cell has then. Undoable. */
    public int swap(int cell, int other) throws IndexOutOfBoundsException {
        requireCell(cell);
        requireCell(other);
        history.save(now);
        exchange(now.directions, cell, other);
        exchange(now.frictions, cell, other);
        now.measureField();
        return now.directions[cell];
    }

    // ---- bars, coil

    /** Lays a bar into a cell, in place of the one there; returns how many bars there are then. Undoable. */
    public int bar(int cell, int direction, int strength)
            throws IndexOutOfBoundsException, IllegalArgumentException, IllegalStateException {
        requireCell(cell);
        requireDirection(direction);
        requireBetween(strength, 1, MOST_STRENGTH);
        if (!now.hasBar(cell) && now.barCount() >= MOST_BARS) {
            throw new IllegalStateException("there are 6 bars");
        }
        history.save(now);
        now.layBar(cell, direction, strength);
        now.measureAll();
        return now.barCount();
    }

    /** Takes the bar of a cell away; returns how many bars there are then. Undoable. */
    public int unbar(int cell) throws IndexOutOfBoundsException, IllegalStateException {
        requireCell(cell);
        if (!now.hasBar(cell)) {
            throw new IllegalStateException("no bar lies there");
        }
        history.save(now);
        now.takeBar(cell);
        now.measureAll();
        return now.barCount();
    }

    /** Changes the coil; returns the previous turns. Undoable. */
    public int coil(int turns, int direction) throws IllegalArgumentException {
        requireBetween(turns, 0, MOST_TURNS);
        requireDirection(direction);
        history.save(now);
        int previous = now.turns;
        now.turns = turns;
        now.coilDirection = direction;
        now.measureAll();
        return previous;
    }

    /** Changes a setting; returns the previous value. Undoable. */
    public int set(int setting, int value) throws IndexOutOfBoundsException, IllegalArgumentException {
        requireSetting(setting);
        requireBetween(value, 0, MOST_OF_SETTING[setting]);
        history.save(now);
        int previous = now.settings[setting];
        now.settings[setting] = value;
        now.measureAll();
        return previous;
    }

    /** Lets steps go by; returns how many turns of needles there are in them. Undoable, as one call. */
    public int step(int steps) throws IllegalArgumentException {
        requireBetween(steps, 1, MOST_STEPS);
        history.save(now);
        return now.letGoBy(steps);
    }

    // ---- texts

    /** Appends a character to the buffer; returns its new length. */
    public int append(int code) throws IllegalArgumentException, IllegalStateException {
        requireBetween(code, 33, 126);
        if (text.length >= MOST_CHARACTERS) {
            throw new IllegalStateException("the buffer has 60 characters");
        }
        text.add(code);
        return text.length;
    }

    /** Clears the buffer; returns the length that it had. */
    public int clearBuffer() {
        int previous = text.length;
        text.length = 0;
        return previous;
    }

    /** Returns the index of the first syntax error of the buffer; its length if there is none. */
    public int firstError() {
        return text.goodLength();
    }

    /** Lays the bars of the buffer in place of all bars; returns how many there are then. Undoable. */
    public int bars() throws IllegalArgumentException {
        if (!text.isComplete()) {
            throw new IllegalArgumentException("the buffer is not complete bars as a text");
        }
        history.save(now);
        now.takeAllBars();
        text.layInto(now);
        now.measureAll();
        text.length = 0;
        return now.barCount();
    }

    /** Restores the latest saved state, and drops it; returns how many are left. */
    public int undo() throws IllegalStateException {
        if (history.amount == 0) {
            throw new IllegalStateException("there is no saved state");
        }
        history.restoreInto(now);
        return history.amount;
    }

    // ---- looks; nothing is changed

    /** Returns something of a cell: its needle, its field or its aim. */
    public int cell(int cell, int what) throws IndexOutOfBoundsException, IllegalArgumentException {
        requireCell(cell);
        switch (what) {
            case 0:
                return now.directions[cell];
            case 1:
                return now.frictions[cell];
            case 2:
                return now.held[cell] ? 1 : 0;
            case 3:
                return now.fieldX[cell] + FIELD_OFFSET;
            case 4:
                return now.fieldY[cell] + FIELD_OFFSET;
            case 5:
                return now.aim(cell);
            case 6:
                return now.wouldTurn(cell) ? 1 : 0;
            case 7:
                return now.awayFromAim(cell);
            default:
                throw new IllegalArgumentException("what is not 0 to 7");
        }
    }

    /** Returns something of a bar, by ascending cells; NONE if there are not so many. */
    public int barOf(int place, int what) throws IllegalArgumentException {
        if (place < 0) {
            throw new IllegalArgumentException("place is below 0");
        }
        requireBetween(what, 0, BAR_NUMBERS - 1);
        int cell = now.cellOfBar(place);
        if (cell == NONE || what == 0) {
            return cell;
        }
        return what == 1 ? now.barDirections[cell] : now.barStrengths[cell];
    }

    /** Returns a number of the whole grid. */
    public int count(int what) throws IllegalArgumentException {
        switch (what) {
            case 0:
                return now.stepsSoFar;
            case 1:
                return now.barCount();
            case 2:
                return now.turns;
            case 3:
                return now.coilDirection;
            case 4:
                return now.heldCount();
            case 5:
                return now.turningCount();
            case 6:
                return now.obeyingCount();
            case 7:
                return now.awayTogether();
            case 8:
                return history.amount;
            default:
                throw new IllegalArgumentException("what is not 0 to 8");
        }
    }

    /** Returns how many needles point in a direction. */
    public int pointing(int direction) throws IllegalArgumentException {
        requireDirection(direction);
        return now.pointingCount(direction);
    }

    /** Returns a setting. */
    public int setting(int setting) throws IndexOutOfBoundsException {
        requireSetting(setting);
        return now.settings[setting];
    }

    // ---- what would be; nothing is changed

    /** Returns behind how many steps, 0 to 100, the grid would be at rest; NONE if not by 100. */
    public int restsIn() {
        trial.copyFrom(now);
        for (int steps = 0; steps <= MOST_STEPS_AHEAD; steps++) {
            if (trial.letGoBy(1) == 0) {
                return steps;
            }
        }
        return NONE;
    }

    /** Returns the direction of a needle behind so many steps. */
    public int points(int cell, int steps) throws IndexOutOfBoundsException, IllegalArgumentException {
        requireCell(cell);
        requireBetween(steps, 0, MOST_STEPS_AHEAD);
        trial.copyFrom(now);
        trial.letGoBy(steps);
        return trial.directions[cell];
    }

    /** Returns how many needles would have another aim than now if a bar lay in a cell. */
    public int ifBar(int cell, int direction, int strength)
            throws IndexOutOfBoundsException, IllegalArgumentException {
        requireCell(cell);
        requireDirection(direction);
        requireBetween(strength, 1, MOST_STRENGTH);
        int others = 0;
        for (int seen = 0; seen < CELLS; seen++) {
            if (now.aimIfBar(seen, cell, direction, strength) != now.aim(seen)) {
                others++;
            }
        }
        return others;
    }

    /** Returns cell * 8 + direction, the least, of a bar with which a needle has the wanted aim; NONE if none. */
    public int bestBar(int cell, int direction, int strength)
            throws IndexOutOfBoundsException, IllegalArgumentException {
        requireCell(cell);
        requireDirection(direction);
        requireBetween(strength, 1, MOST_STRENGTH);
        for (int bar = 0; bar < CELLS; bar++) {
            for (int barDirection = 0; barDirection < DIRECTIONS; barDirection++) {
                if (now.aimIfBar(cell, bar, barDirection, strength) == direction) {
                    return bar * DIRECTIONS + barDirection;
                }
            }
        }
        return NONE;
    }

    /** Returns the least turns of the coil with which a needle's aim is the coil's direction; NONE if none. */
    public int leastTurns(int cell) throws IndexOutOfBoundsException {
        requireCell(cell);
        for (int turns = 0; turns <= MOST_TURNS; turns++) {
            if (now.aimIfTurns(cell, turns) == now.coilDirection) {
                return turns;
            }
        }
        return NONE;
    }

    /** Returns the share of the needles that point to their aim, among those that have one; 1.0 if none has. */
    public double obedience() {
        int aimed = now.aimedCount();
        if (aimed == 0) {
            return 1.0;
        }
        return (double) now.obeyingCount() / (double) aimed;
    }

    /** Computes a hash of the whole state. */
    public long digest() {
        long hash = FIRST_HASH;
        for (int what = 0; what < COUNTS; what++) {
            hash = mixed(hash, count(what));
        }
        for (int setting = 0; setting < SETTINGS; setting++) {
            hash = mixed(hash, setting(setting));
        }
        hash = withCells(hash);
        hash = withBars(hash);
        for (int direction = 0; direction < DIRECTIONS; direction++) {
            hash = mixed(hash, pointing(direction));
        }
        hash = mixed(hash, restsIn());
        hash = mixed(hash, points(0, 9));
        hash = mixed(hash, points(14, 9));
        hash = mixed(hash, points(35, 9));
        hash = mixed(hash, ifBar(14, 2, 20));
        hash = mixed(hash, bestBar(20, 0, 30));
        hash = mixed(hash, leastTurns(7));
        hash = mixed(hash, bitsOf(obedience()));
        return withBuffer(hash);
    }

    private long withCells(long before) {
        long hash = before;
        for (int cell = 0; cell < CELLS; cell++) {
            for (int what = 0; what < CELL_NUMBERS; what++) {
                hash = mixed(hash, cell(cell, what));
            }
        }
        return hash;
    }

    private long withBars(long before) {
        long hash = before;
        int amount = now.barCount();
        for (int place = 0; place < amount; place++) {
            for (int what = 0; what < BAR_NUMBERS; what++) {
                hash = mixed(hash, barOf(place, what));
            }
        }
        return hash;
    }

    private long withBuffer(long before) {
        long hash = mixed(before, text.length);
        for (int index = 0; index < text.length && index < MOST_CHARACTERS; index++) {
            hash = mixed(hash, text.codes[index]);
        }
        return hash;
    }

    private static long mixed(long hash, long value) {
        return 31L * hash + value;
    }

    /** The bits of a share from 0 to 1, by hand: Double is not among the library that is allowed. */
    private static long bitsOf(double share) {
        if (!(share > 0.0)) {
            return 0L;
        }
        double scaled = share;
        long exponent = EXPONENT_OF_ONE;
        // Doubling and taking 1 away are exact, so no bit is lost.
        while (scaled < 1.0 && exponent > 1) {
            scaled = scaled * 2.0;
            exponent--;
        }
        return (exponent << FRACTION_BITS) + (long) ((scaled - 1.0) * (double) FRACTION_UNIT);
    }

    private static void exchange(int[] row, int one, int other) {
        int kept = row[one];
        row[one] = row[other];
        row[other] = kept;
    }

    private static void requireCell(int cell) {
        if (cell < 0 || cell >= CELLS) {
            throw new IndexOutOfBoundsException("there is no such cell");
        }
    }

    private static void requireSetting(int setting) {
        if (setting < 0 || setting >= SETTINGS) {
            throw new IndexOutOfBoundsException("there is no such setting");
        }
    }

    private static void requireDirection(int direction) {
        requireBetween(direction, 0, LAST_DIRECTION);
    }

    private static void requireBetween(int value, int least, int most) {
        if (value < least || value > most) {
            throw new IllegalArgumentException("a number is out of range");
        }
    }

    // The mask turns every int into one from 0 to 7, so the two rows are never left.

    private static int across(int direction) {
        return ACROSS[direction & LAST_DIRECTION];
    }

    private static int down(int direction) {
        return DOWN[direction & LAST_DIRECTION];
    }

    /** The direction of a field; NONE if there is no field. */
    private static int aimOf(int x, int y) {
        int a = x < 0 ? -x : x;
        int b = y < 0 ? -y : y;
        if (a == 0 && b == 0) {
            return NONE;
        }
        if (12 * b <= 5 * a) {
            return x > 0 ? 0 : 4;
        }
        if (12 * a <= 5 * b) {
            return y > 0 ? 2 : 6;
        }
        if (y > 0) {
            return x > 0 ? 1 : 3;
        }
        return x > 0 ? 7 : 5;
    }

    /** How many times its direction a bar adds to the field of a cell; below 0 if the cell lies beside it. */
    private static int pull(int bar, int direction, int strength, int cell) {
        int p = cell % SIDE - bar % SIDE;
        int q = cell / SIDE - bar / SIDE;
        int square = p * p + q * q;
        if (square == 0) {
            return 0;
        }
        int u = across(direction);
        int v = down(direction);
        int s = strength * 100 / square;
        int along = p * u + q * v;
        boolean liesAlong = 2 * along * along >= square * (u * u + v * v);
        return liesAlong ? s : -(s / 2);
    }

    /** By how many directions one is ahead of another, 0 to 7, counted upwards. */
    private static int ahead(int direction, int aim) {
        return (aim - direction) & LAST_DIRECTION;
    }

    /** All that undo brings back. Cells and directions that come in here have been looked at by the face. */
    private static final class Grid {
        private final int[] directions = new int[CELLS];
        private final int[] frictions = new int[CELLS];
        private final boolean[] held = new boolean[CELLS];
        private final int[] barDirections = new int[CELLS];
        /** 0 where no bar lies. */
        private final int[] barStrengths = new int[CELLS];
        private final int[] settings = {20, 2, 3};
        private int turns;
        private int coilDirection;
        private int stepsSoFar;
        /** The part of the field that no step changes; kept, so that steps need not go through the bars. */
        private final int[] stillX = new int[CELLS];
        private final int[] stillY = new int[CELLS];
        /** The field; whoever changes what it comes from calls measureField or measureAll. */
        private final int[] fieldX = new int[CELLS];
        private final int[] fieldY = new int[CELLS];

        Grid() {
            for (int cell = 0; cell < CELLS; cell++) {
                directions[cell] = 6;
                frictions[cell] = 10;
            }
            measureAll();
        }

        void copyFrom(Grid other) {
            for (int cell = 0; cell < CELLS; cell++) {
                directions[cell] = other.directions[cell];
                frictions[cell] = other.frictions[cell];
                held[cell] = other.held[cell];
                barDirections[cell] = other.barDirections[cell];
                barStrengths[cell] = other.barStrengths[cell];
                stillX[cell] = other.stillX[cell];
                stillY[cell] = other.stillY[cell];
                fieldX[cell] = other.fieldX[cell];
                fieldY[cell] = other.fieldY[cell];
            }
            for (int setting = 0; setting < SETTINGS; setting++) {
                settings[setting] = other.settings[setting];
            }
            turns = other.turns;
            coilDirection = other.coilDirection;
            stepsSoFar = other.stepsSoFar;
        }

        /** Due when the bars, the coil or a setting have changed. */
        void measureAll() {
            int fromCoil = settings[COIL_TURN] * turns;
            int x = fromCoil * across(coilDirection);
            int y = fromCoil * down(coilDirection) - settings[EARTH];
            for (int cell = 0; cell < CELLS; cell++) {
                stillX[cell] = x;
                stillY[cell] = y;
            }
            for (int bar = 0; bar < CELLS; bar++) {
                if (hasBar(bar)) {
                    addBarToStill(bar);
                }
            }
            measureField();
        }

        private void addBarToStill(int bar) {
            int u = across(barDirections[bar]);
            int v = down(barDirections[bar]);
            for (int cell = 0; cell < CELLS; cell++) {
                int times = pull(bar, barDirections[bar], barStrengths[bar], cell);
                stillX[cell] += times * u;
                stillY[cell] += times * v;
            }
        }

        /** Enough when only needles have turned. */
        void measureField() {
            for (int cell = 0; cell < CELLS; cell++) {
                fieldX[cell] = stillX[cell];
                fieldY[cell] = stillY[cell];
            }
            for (int cell = 0; cell < CELLS; cell++) {
                addNeedleToNeighbours(cell);
            }
        }

        private void addNeedleToNeighbours(int cell) {
            int column = cell % SIDE;
            int x = settings[NEIGHBOURS] * across(directions[cell]);
            int y = settings[NEIGHBOURS] * down(directions[cell]);
            if (cell >= SIDE) {
                addToField(cell - SIDE, x, y);
            }
            if (cell < CELLS - SIDE) {
                addToField(cell + SIDE, x, y);
            }
            if (column > 0) {
                addToField(cell - 1, x, y);
            }
            if (column < SIDE - 1) {
                addToField(cell + 1, x, y);
            }
        }

        private void addToField(int cell, int x, int y) {
            fieldX[cell] += x;
            fieldY[cell] += y;
        }

        int aim(int cell) {
            return aimOf(fieldX[cell], fieldY[cell]);
        }

        /** The aim of a cell if a bar lay in the cell bar, in place of the one that lies there. */
        int aimIfBar(int cell, int bar, int direction, int strength) {
            int oldDirection = barDirections[bar];
            int oldTimes = pull(bar, oldDirection, barStrengths[bar], cell);
            int times = pull(bar, direction, strength, cell);
            int x = fieldX[cell] - oldTimes * across(oldDirection) + times * across(direction);
            int y = fieldY[cell] - oldTimes * down(oldDirection) + times * down(direction);
            return aimOf(x, y);
        }

        /** The aim of a cell if the coil had so many turns. */
        int aimIfTurns(int cell, int otherTurns) {
            int more = settings[COIL_TURN] * (otherTurns - turns);
            int x = fieldX[cell] + more * across(coilDirection);
            int y = fieldY[cell] + more * down(coilDirection);
            return aimOf(x, y);
        }

        /** 0 to 4; NONE without an aim. */
        int awayFromAim(int cell) {
            int aim = aim(cell);
            if (aim == NONE) {
                return NONE;
            }
            int ahead = ahead(directions[cell], aim);
            return ahead <= OPPOSITE ? ahead : DIRECTIONS - ahead;
        }

        boolean wouldTurn(int cell) {
            return directionAfterStep(cell) != directions[cell];
        }

        private int directionAfterStep(int cell) {
            int direction = directions[cell];
            if (held[cell]) {
                return direction;
            }
            int x = fieldX[cell];
            int y = fieldY[cell];
            int aim = aimOf(x, y);
            int size = (x < 0 ? -x : x) + (y < 0 ? -y : y);
            if (aim == NONE || aim == direction || size <= frictions[cell]) {
                return direction;
            }
            int turn = ahead(direction, aim) <= OPPOSITE ? 1 : -1;
            return (direction + turn) & LAST_DIRECTION;
        }

        /** Returns how many turns of needles there are in the steps. */
        int letGoBy(int steps) {
            int turned = 0;
            for (int step = 0; step < steps; step++) {
                turned += turnAll();
            }
            stepsSoFar += steps;
            return turned;
        }

        /** The field is measured behind the last needle only, so all of them turn in the one ahead of the step. */
        private int turnAll() {
            int turned = 0;
            for (int cell = 0; cell < CELLS; cell++) {
                int direction = directionAfterStep(cell);
                if (direction != directions[cell]) {
                    directions[cell] = direction;
                    turned++;
                }
            }
            measureField();
            return turned;
        }

        boolean hasBar(int cell) {
            return barStrengths[cell] > 0;
        }

        /** measureAll is due behind this, as behind takeBar and takeAllBars. */
        void layBar(int cell, int direction, int strength) {
            barDirections[cell] = direction;
            barStrengths[cell] = strength;
        }

        void takeBar(int cell) {
            layBar(cell, 0, 0);
        }

        void takeAllBars() {
            for (int cell = 0; cell < CELLS; cell++) {
                takeBar(cell);
            }
        }

        int barCount() {
            int bars = 0;
            for (int cell = 0; cell < CELLS; cell++) {
                if (hasBar(cell)) {
                    bars++;
                }
            }
            return bars;
        }

        /** The cell of the bar with so many bars in the cells before it; NONE if there is none. */
        int cellOfBar(int place) {
            int before = 0;
            for (int cell = 0; cell < CELLS; cell++) {
                if (hasBar(cell)) {
                    if (before == place) {
                        return cell;
                    }
                    before++;
                }
            }
            return NONE;
        }

        int heldCount() {
            int amount = 0;
            for (int cell = 0; cell < CELLS; cell++) {
                if (held[cell]) {
                    amount++;
                }
            }
            return amount;
        }

        int turningCount() {
            int amount = 0;
            for (int cell = 0; cell < CELLS; cell++) {
                if (wouldTurn(cell)) {
                    amount++;
                }
            }
            return amount;
        }

        int aimedCount() {
            int amount = 0;
            for (int cell = 0; cell < CELLS; cell++) {
                if (aim(cell) != NONE) {
                    amount++;
                }
            }
            return amount;
        }

        int obeyingCount() {
            int amount = 0;
            for (int cell = 0; cell < CELLS; cell++) {
                if (aim(cell) == directions[cell]) {
                    amount++;
                }
            }
            return amount;
        }

        int awayTogether() {
            int sum = 0;
            for (int cell = 0; cell < CELLS; cell++) {
                int away = awayFromAim(cell);
                if (away != NONE) {
                    sum += away;
                }
            }
            return sum;
        }

        int pointingCount(int direction) {
            int amount = 0;
            for (int cell = 0; cell < CELLS; cell++) {
                if (directions[cell] == direction) {
                    amount++;
                }
            }
            return amount;
        }
    }

    /** The saved states, in a ring of grids that are used again. */
    private static final class History {
        private final Grid[] ring = new Grid[MOST_SAVED];
        private int amount;
        /** Where the next state is saved; once the ring is full, the oldest one stands there. */
        private int next;

        History() {
            for (int place = 0; place < MOST_SAVED; place++) {
                ring[place] = new Grid();
            }
        }

        void save(Grid grid) {
            Grid place = ring[next];
            if (place != null) {
                place.copyFrom(grid);
            }
            next = next + 1 < MOST_SAVED ? next + 1 : 0;
            if (amount < MOST_SAVED) {
                amount++;
            }
        }

        void restoreInto(Grid grid) {
            next = next > 0 ? next - 1 : MOST_SAVED - 1;
            amount--;
            Grid latest = ring[next];
            if (latest != null) {
                grid.copyFrom(latest);
            }
        }
    }

    /** The buffer. */
    private static final class BarText {
        private final int[] codes = new int[MOST_CHARACTERS];
        private int length;
        private final BarReader reader = new BarReader();

        void add(int code) {
            if (length < MOST_CHARACTERS) {
                codes[length] = code;
                length++;
            }
        }

        /** The length of the part ahead of the first syntax error; the reader has read it then. */
        int goodLength() {
            reader.begin();
            int index = 0;
            while (index < length && index < MOST_CHARACTERS && reader.take(codes[index])) {
                index++;
            }
            return index;
        }

        boolean isComplete() {
            return goodLength() == length && reader.isBehindStrength();
        }

        /** Lays the bars of a complete text. */
        void layInto(Grid grid) {
            reader.begin();
            for (int index = 0; index < length && index < MOST_CHARACTERS; index++) {
                if (codes[index] == ';') {
                    reader.layInto(grid);
                }
                reader.take(codes[index]);
            }
            reader.layInto(grid);
        }
    }

    /** Reads bars as a text character by character, and keeps the part that it stands in. */
    private static final class BarReader {
        private static final int COLUMN = 0;
        private static final int ROW = 1;
        private static final int LETTER = 2;
        private static final int STRENGTH = 3;
        /** A further digit of the strength, or what stands between the parts. */
        private static final int BEHIND_STRENGTH = 4;

        /** What is due next. */
        private int due;
        private int parts;
        private int column;
        private int row;
        private int direction;
        private int strength;

        void begin() {
            due = COLUMN;
            parts = 1;
        }

        /** Returns whether bars as a text go on with this character. */
        boolean take(int code) {
            int digit = code - '0';
            switch (due) {
                case COLUMN:
                    column = digit;
                    return goOn(ROW, digit >= 0 && digit < SIDE);
                case ROW:
                    row = digit;
                    return goOn(LETTER, digit >= 0 && digit < SIDE);
                case LETTER:
                    direction = code - 'a';
                    return goOn(STRENGTH, direction >= 0 && direction < DIRECTIONS);
                case STRENGTH:
                    strength = digit;
                    return goOn(BEHIND_STRENGTH, digit >= 1 && digit <= 9);
                default:
                    return takeBehindStrength(code);
            }
        }

        private boolean takeBehindStrength(int code) {
            if (code == ';') {
                parts++;
                return goOn(COLUMN, parts <= MOST_BARS);
            }
            int digit = code - '0';
            // A third digit needs no look of its own: with it, the strength is 100 at least.
            strength = 10 * strength + digit;
            return goOn(BEHIND_STRENGTH, digit >= 0 && digit <= 9 && strength <= MOST_STRENGTH);
        }

        private boolean goOn(int nextDue, boolean isGood) {
            due = nextDue;
            return isGood;
        }

        boolean isBehindStrength() {
            return due == BEHIND_STRENGTH;
        }

        void layInto(Grid grid) {
            int cell = row * SIDE + column;
            if (cell >= 0 && cell < CELLS) {
                grid.layBar(cell, direction, strength);
            }
        }
    }
}
