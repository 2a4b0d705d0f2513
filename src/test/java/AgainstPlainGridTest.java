import java.util.function.DoubleSupplier;
import java.util.function.IntSupplier;

/** All promises: long runs of calls, drawn by a counter alone, answered as the plain grid answers them. */
public final class AgainstPlainGridTest {
    private static final Check CHECK = new Check();
    private static final int RUNS = 400;
    private static final int CALLS = 80;
    private static final String TYPED = "0123456789abcdefgh;;;;ix/:`";

    private long drawn;
    private final int kind;
    private final NeedleGrid grid = new NeedleGrid();
    private final PlainGrid plain = new PlainGrid();
    private String calls = "";

    private AgainstPlainGridTest(int run) {
        drawn = run * 7919L + 17;
        kind = run % 4;
    }

    public static void main(String[] args) {
        for (int run = 0; run < RUNS; run++) {
            new AgainstPlainGridTest(run).play();
        }
        CHECK.end("AgainstPlainGridTest");
    }

    private void play() {
        prepare();
        for (int call = 0; call < CALLS; call++) {
            oneCall();
        }
        long want = Digests.byTheDocument(plain, plain.buffer());
        CHECK.due("digest behind" + calls, grid.digest(), want);
        CHECK.due("digest again behind" + calls, grid.digest(), want);
    }

    /** A number from 0 to below, the same in every run of the test. */
    private int draw(int below) {
        drawn = drawn * 6364136223846793005L + 1442695040888963407L;
        return (int) Math.floorMod(drawn >>> 33, (long) below);
    }

    /** Mostly in range, now and then just outside it. */
    private int about(int least, int most) {
        if (draw(25) == 0) {
            return draw(2) == 0 ? least - 1 : most + 1;
        }
        return least + draw(most - least + 1);
    }

    private void same(String call, IntSupplier got, IntSupplier want) {
        calls += " " + call;
        CHECK.due(calls, answer(got), answer(want));
    }

    private void sameShare(String call, DoubleSupplier got, DoubleSupplier want) {
        calls += " " + call;
        CHECK.dueShare(calls, got.getAsDouble(), want.getAsDouble());
    }

    private static String answer(IntSupplier call) {
        try {
            return String.valueOf(call.getAsInt());
        } catch (RuntimeException thrown) {
            return "throws." + thrown.getClass().getSimpleName();
        }
    }

    /** Some runs start from needles at random, some without the earth, so that grids swing, too. */
    private void prepare() {
        if (kind == 0) {
            return;
        }
        for (int cell = 0; cell < 36; cell++) {
            needle(cell, draw(8));
            friction(cell, draw(3) == 0 ? 0 : draw(60));
        }
        set(2, kind == 1 ? 3 : 1 + draw(50));
        if (kind == 3) {
            set(0, 0);
        }
    }

    private void oneCall() {
        int pick = draw(26);
        if (pick < 13) {
            change(pick);
        } else {
            look(pick);
        }
    }

    private void change(int pick) {
        switch (pick) {
            case 0 -> needle(about(0, 35), about(0, 7));
            case 1 -> friction(about(0, 35), draw(2) == 0 ? about(0, 999) : about(0, 60));
            case 2 -> hold(about(0, 35), draw(2) == 0);
            case 3 -> swap(about(0, 35), about(0, 35));
            case 4, 5 -> bar(about(0, 35), about(0, 7), draw(3) == 0 ? about(1, 50) : about(1, 4));
            case 6 -> unbar(about(0, 35));
            case 7 -> coil(about(0, 50), about(0, 7));
            case 8 -> setSome(about(0, 2));
            case 9 -> step(draw(3) == 0 ? about(1, 50) : about(1, 4));
            case 10 -> type();
            case 11 -> same("bars", grid::bars, plain::bars);
            default -> same("undo", grid::undo, plain::undo);
        }
    }

    private void look(int pick) {
        switch (pick) {
            case 13, 14, 15 -> cell(about(0, 35), about(0, 7));
            case 16 -> barOf(about(0, 6), about(0, 2));
            case 17, 18 -> count(about(0, 8));
            case 19 -> pointing(about(0, 7));
            case 20 -> setting(about(0, 2));
            case 21 -> restsIn();
            case 22 -> points(about(0, 35), about(0, 100));
            case 23 -> ifBar(about(0, 35), about(0, 7), about(1, 50));
            case 24 -> bestBar(about(0, 35), about(0, 7), about(1, 50));
            default -> leastTurns(about(0, 35));
        }
        if (draw(8) == 0) {
            sameShare("obedience", grid::obedience, plain::obedience);
        }
    }

    private void setSome(int setting) {
        set(setting, about(0, setting == 0 ? 200 : setting == 1 ? 20 : 50));
    }

    /** A part that is mostly good, a character that is mostly not, or nothing any more. */
    private void type() {
        if (draw(6) == 0) {
            same("clearBuffer", grid::clearBuffer, plain::clearBuffer);
        }
        if (plain.buffer().isEmpty() || draw(3) > 0) {
            String part = (plain.buffer().isEmpty() ? "" : ";") + about(0, 5) + about(0, 5)
                    + (char) ('a' + about(0, 7)) + about(1, 50);
            part.replace("-1", "/").chars().forEach(this::append);
        } else {
            append(TYPED.charAt(draw(TYPED.length())));
        }
        if (draw(10) == 0) {
            append(about(33, 126));
        }
        same("firstError", grid::firstError, plain::firstError);
    }

    private void needle(int cell, int direction) {
        same("needle " + cell + " " + direction, () -> grid.needle(cell, direction), () -> plain.needle(cell, direction));
    }

    private void friction(int cell, int friction) {
        same("friction " + cell + " " + friction,
                () -> grid.friction(cell, friction), () -> plain.friction(cell, friction));
    }

    private void hold(int cell, boolean isHeld) {
        same("hold " + cell + " " + isHeld, () -> grid.hold(cell, isHeld), () -> plain.hold(cell, isHeld));
    }

    private void swap(int cell, int other) {
        same("swap " + cell + " " + other, () -> grid.swap(cell, other), () -> plain.swap(cell, other));
    }

    private void bar(int cell, int direction, int strength) {
        same("bar " + cell + " " + direction + " " + strength,
                () -> grid.bar(cell, direction, strength), () -> plain.bar(cell, direction, strength));
    }

    private void unbar(int cell) {
        same("unbar " + cell, () -> grid.unbar(cell), () -> plain.unbar(cell));
    }

    private void coil(int turns, int direction) {
        same("coil " + turns + " " + direction, () -> grid.coil(turns, direction), () -> plain.coil(turns, direction));
    }

    private void set(int setting, int value) {
        same("set " + setting + " " + value, () -> grid.set(setting, value), () -> plain.set(setting, value));
    }

    private void step(int steps) {
        same("step " + steps, () -> grid.step(steps), () -> plain.step(steps));
    }

    private void append(int code) {
        same("append " + code, () -> grid.append(code), () -> plain.append(code));
    }

    private void cell(int cell, int what) {
        same("cell " + cell + " " + what, () -> grid.cell(cell, what), () -> plain.cell(cell, what));
    }

    private void barOf(int place, int what) {
        same("barOf " + place + " " + what, () -> grid.barOf(place, what), () -> plain.barOf(place, what));
    }

    private void count(int what) {
        same("count " + what, () -> grid.count(what), () -> plain.count(what));
    }

    private void pointing(int direction) {
        same("pointing " + direction, () -> grid.pointing(direction), () -> plain.pointing(direction));
    }

    private void setting(int setting) {
        same("setting " + setting, () -> grid.setting(setting), () -> plain.setting(setting));
    }

    private void restsIn() {
        same("restsIn", grid::restsIn, plain::restsIn);
    }

    private void points(int cell, int steps) {
        same("points " + cell + " " + steps, () -> grid.points(cell, steps), () -> plain.points(cell, steps));
    }

    private void ifBar(int cell, int direction, int strength) {
        same("ifBar " + cell + " " + direction + " " + strength,
                () -> grid.ifBar(cell, direction, strength), () -> plain.ifBar(cell, direction, strength));
    }

    private void bestBar(int cell, int direction, int strength) {
        same("bestBar " + cell + " " + direction + " " + strength,
                () -> grid.bestBar(cell, direction, strength), () -> plain.bestBar(cell, direction, strength));
    }

    private void leastTurns(int cell) {
        same("leastTurns " + cell, () -> grid.leastTurns(cell), () -> plain.leastTurns(cell));
    }
}
