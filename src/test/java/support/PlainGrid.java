import java.util.ArrayDeque;
import java.util.Deque;
import java.util.SortedMap;
import java.util.TreeMap;
import java.util.regex.Matcher;
import java.util.regex.Pattern;

/**
 * The document once more, in its plainest form and by other means than NeedleGrid: every field is summed up anew
 * from the vectors, bars are in a map, texts are matched by a pattern, and states are saved as copies.
 */
final class PlainGrid implements Looks {
    private static final int NONE = -1;
    private static final Pattern BARS;

    static {
        String part = "[0-5][0-5][a-h](?:[1-9]|[1-4][0-9]|50)";
        BARS = Pattern.compile(part + "(?:;" + part + "){0,5}");
    }

    private record Bar(int direction, int strength) {
    }

    /** All that undo brings back. */
    private static final class State {
        int[] needles = new int[36];
        int[] frictions = new int[36];
        boolean[] held = new boolean[36];
        SortedMap<Integer, Bar> bars = new TreeMap<>();
        int turns;
        int coil;
        int[] settings = {20, 2, 3};
        int steps;

        State copy() {
            State copy = new State();
            copy.needles = needles.clone();
            copy.frictions = frictions.clone();
            copy.held = held.clone();
            copy.bars = new TreeMap<>(bars);
            copy.turns = turns;
            copy.coil = coil;
            copy.settings = settings.clone();
            copy.steps = steps;
            return copy;
        }
    }

    private State state = new State();
    private final Deque<State> saved = new ArrayDeque<>();
    private String buffer = "";

    PlainGrid() {
        for (int cell = 0; cell < 36; cell++) {
            state.needles[cell] = 6;
            state.frictions[cell] = 10;
        }
    }

    private static void among(boolean isGood) {
        if (!isGood) {
            throw new IndexOutOfBoundsException();
        }
    }

    private static void fits(boolean isGood) {
        if (!isGood) {
            throw new IllegalArgumentException();
        }
    }

    private static void may(boolean isGood) {
        if (!isGood) {
            throw new IllegalStateException();
        }
    }

    private static boolean in(int number, int least, int most) {
        return least <= number && number <= most;
    }

    private void save() {
        saved.addLast(state.copy());
        if (saved.size() > 6) {
            saved.removeFirst();
        }
    }

    int needle(int cell, int direction) {
        among(in(cell, 0, 35));
        fits(in(direction, 0, 7));
        save();
        int old = state.needles[cell];
        state.needles[cell] = direction;
        return old;
    }

    int friction(int cell, int friction) {
        among(in(cell, 0, 35));
        fits(in(friction, 0, 999));
        save();
        int old = state.frictions[cell];
        state.frictions[cell] = friction;
        return old;
    }

    int hold(int cell, boolean isHeld) {
        among(in(cell, 0, 35));
        save();
        int old = state.held[cell] ? 1 : 0;
        state.held[cell] = isHeld;
        return old;
    }

    int swap(int cell, int other) {
        among(in(cell, 0, 35) && in(other, 0, 35));
        save();
        State before = saved.getLast();
        state.needles[cell] = before.needles[other];
        state.needles[other] = before.needles[cell];
        state.frictions[cell] = before.frictions[other];
        state.frictions[other] = before.frictions[cell];
        return state.needles[cell];
    }

    int bar(int cell, int direction, int strength) {
        among(in(cell, 0, 35));
        fits(in(direction, 0, 7) && in(strength, 1, 50));
        may(state.bars.size() < 6 || state.bars.containsKey(cell));
        save();
        state.bars.put(cell, new Bar(direction, strength));
        return state.bars.size();
    }

    int unbar(int cell) {
        among(in(cell, 0, 35));
        may(state.bars.containsKey(cell));
        save();
        state.bars.remove(cell);
        return state.bars.size();
    }

    int coil(int turns, int direction) {
        fits(in(turns, 0, 50) && in(direction, 0, 7));
        save();
        int old = state.turns;
        state.turns = turns;
        state.coil = direction;
        return old;
    }

    int set(int setting, int value) {
        among(in(setting, 0, 2));
        fits(in(value, 0, setting == 0 ? 200 : setting == 1 ? 20 : 50));
        save();
        int old = state.settings[setting];
        state.settings[setting] = value;
        return old;
    }

    int step(int steps) {
        fits(in(steps, 1, 50));
        save();
        int turned = 0;
        for (int step = 0; step < steps; step++) {
            turned += turn(state);
        }
        return turned;
    }

    int append(int code) {
        fits(in(code, 33, 126));
        may(buffer.length() < 60);
        buffer += (char) code;
        return buffer.length();
    }

    int clearBuffer() {
        int old = buffer.length();
        buffer = "";
        return old;
    }

    int firstError() {
        for (int index = 0; index < buffer.length(); index++) {
            Matcher matcher = BARS.matcher(buffer.substring(0, index + 1));
            if (!matcher.matches() && !matcher.hitEnd()) {
                return index;
            }
        }
        return buffer.length();
    }

    int bars() {
        fits(BARS.matcher(buffer).matches());
        save();
        state.bars.clear();
        for (String part : buffer.split(";")) {
            int cell = (part.charAt(1) - '0') * 6 + part.charAt(0) - '0';
            state.bars.put(cell, new Bar(part.charAt(2) - 'a', Integer.parseInt(part.substring(3))));
        }
        buffer = "";
        return state.bars.size();
    }

    int undo() {
        may(!saved.isEmpty());
        state = saved.removeLast();
        return saved.size();
    }

    @Override
    public int cell(int cell, int what) {
        among(in(cell, 0, 35));
        fits(in(what, 0, 7));
        int aim = aim(state, cell);
        int away = Math.floorMod(aim - state.needles[cell], 8);
        return switch (what) {
            case 0 -> state.needles[cell];
            case 1 -> state.frictions[cell];
            case 2 -> state.held[cell] ? 1 : 0;
            case 3 -> field(state, cell)[0] + 100000;
            case 4 -> field(state, cell)[1] + 100000;
            case 5 -> aim;
            case 6 -> turned(state, cell) == state.needles[cell] ? 0 : 1;
            default -> aim == NONE ? NONE : Math.min(away, 8 - away);
        };
    }

    @Override
    public int barOf(int place, int what) {
        fits(place >= 0 && in(what, 0, 2));
        if (place >= state.bars.size()) {
            return NONE;
        }
        int cell = state.bars.keySet().stream().skip(place).findFirst().orElseThrow();
        Bar bar = state.bars.get(cell);
        return what == 0 ? cell : what == 1 ? bar.direction() : bar.strength();
    }

    @Override
    public int count(int what) {
        fits(in(what, 0, 8));
        int sum = 0;
        for (int cell = 0; cell < 36; cell++) {
            sum += switch (what) {
                case 4 -> cell(cell, 2);
                case 5 -> cell(cell, 6);
                case 6 -> cell(cell, 7) == 0 ? 1 : 0;
                case 7 -> Math.max(0, cell(cell, 7));
                default -> 0;
            };
        }
        return switch (what) {
            case 0 -> state.steps;
            case 1 -> state.bars.size();
            case 2 -> state.turns;
            case 3 -> state.coil;
            case 8 -> saved.size();
            default -> sum;
        };
    }

    @Override
    public int pointing(int direction) {
        fits(in(direction, 0, 7));
        int amount = 0;
        for (int needle : state.needles) {
            amount += needle == direction ? 1 : 0;
        }
        return amount;
    }

    @Override
    public int setting(int setting) {
        among(in(setting, 0, 2));
        return state.settings[setting];
    }

    @Override
    public int restsIn() {
        State copy = state.copy();
        for (int steps = 0; steps <= 100; steps++) {
            if (turn(copy) == 0) {
                return steps;
            }
        }
        return NONE;
    }

    @Override
    public int points(int cell, int steps) {
        among(in(cell, 0, 35));
        fits(in(steps, 0, 100));
        State copy = state.copy();
        for (int step = 0; step < steps; step++) {
            turn(copy);
        }
        return copy.needles[cell];
    }

    @Override
    public int ifBar(int cell, int direction, int strength) {
        among(in(cell, 0, 35));
        fits(in(direction, 0, 7) && in(strength, 1, 50));
        State copy = state.copy();
        copy.bars.put(cell, new Bar(direction, strength));
        int others = 0;
        for (int seen = 0; seen < 36; seen++) {
            others += aim(copy, seen) == aim(state, seen) ? 0 : 1;
        }
        return others;
    }

    @Override
    public int bestBar(int cell, int direction, int strength) {
        among(in(cell, 0, 35));
        fits(in(direction, 0, 7) && in(strength, 1, 50));
        for (int number = 0; number < 288; number++) {
            State copy = state.copy();
            copy.bars.put(number / 8, new Bar(number % 8, strength));
            if (aim(copy, cell) == direction) {
                return number;
            }
        }
        return NONE;
    }

    @Override
    public int leastTurns(int cell) {
        among(in(cell, 0, 35));
        State copy = state.copy();
        for (copy.turns = 0; copy.turns <= 50; copy.turns++) {
            if (aim(copy, cell) == state.coil) {
                return copy.turns;
            }
        }
        return NONE;
    }

    @Override
    public double obedience() {
        int having = 0;
        int pointing = 0;
        for (int cell = 0; cell < 36; cell++) {
            having += cell(cell, 5) == NONE ? 0 : 1;
            pointing += cell(cell, 7) == 0 ? 1 : 0;
        }
        return having == 0 ? 1.0 : (double) pointing / having;
    }

    String buffer() {
        return buffer;
    }

    private static int[] vector(int direction) {
        // Counted round the compass: 45 degrees a direction, both parts rounded to -1, 0 or 1.
        double turn = Math.PI / 4 * direction;
        return new int[] {(int) Math.round(Math.cos(turn)), (int) Math.round(Math.sin(turn))};
    }

    private static int[] field(State state, int cell) {
        int[] field = {0, -state.settings[0]};
        add(field, state.settings[1] * state.turns, state.coil);
        state.bars.forEach((barCell, bar) -> addBar(field, cell, barCell, bar));
        for (int other = 0; other < 36; other++) {
            int columns = Math.abs(other % 6 - cell % 6);
            int rows = Math.abs(other / 6 - cell / 6);
            if (columns + rows == 1) {
                add(field, state.settings[2], state.needles[other]);
            }
        }
        return field;
    }

    private static void add(int[] field, int times, int direction) {
        field[0] += times * vector(direction)[0];
        field[1] += times * vector(direction)[1];
    }

    private static void addBar(int[] field, int cell, int barCell, Bar bar) {
        if (cell == barCell) {
            return;
        }
        int p = cell % 6 - barCell % 6;
        int q = cell / 6 - barCell / 6;
        int u = vector(bar.direction())[0];
        int v = vector(bar.direction())[1];
        int s = Math.floorDiv(bar.strength() * 100, p * p + q * q);
        boolean isAlong = (p * u + q * v) * (p * u + q * v) * 2 >= (p * p + q * q) * (u * u + v * v);
        add(field, isAlong ? s : -Math.floorDiv(s, 2), bar.direction());
    }

    private static int aim(State state, int cell) {
        int x = field(state, cell)[0];
        int y = field(state, cell)[1];
        int a = Math.abs(x);
        int b = Math.abs(y);
        if (a + b == 0) {
            return NONE;
        }
        int signX = 12 * a <= 5 * b ? 0 : Integer.signum(x);
        int signY = 12 * b <= 5 * a ? 0 : Integer.signum(y);
        for (int direction = 0; direction < 8; direction++) {
            if (vector(direction)[0] == signX && vector(direction)[1] == signY) {
                return direction;
            }
        }
        throw new AssertionError("no direction");
    }

    /** The direction of a needle behind a step. */
    private static int turned(State state, int cell) {
        int[] field = field(state, cell);
        int aim = aim(state, cell);
        int needle = state.needles[cell];
        boolean isRubbed = Math.abs(field[0]) + Math.abs(field[1]) <= state.frictions[cell];
        if (state.held[cell] || aim == NONE || isRubbed || aim == needle) {
            return needle;
        }
        for (int up = 1; up <= 4; up++) {
            if ((needle + up) % 8 == aim) {
                return (needle + 1) % 8;
            }
        }
        return (needle + 7) % 8;
    }

    private static int turn(State state) {
        State before = state.copy();
        int turns = 0;
        for (int cell = 0; cell < 36; cell++) {
            state.needles[cell] = turned(before, cell);
            turns += state.needles[cell] == before.needles[cell] ? 0 : 1;
        }
        state.steps++;
        return turns;
    }
}
