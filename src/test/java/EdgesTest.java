/** Every call with every mixture of numbers at and beyond the edges, on fresh objects, as the plain grid answers. */
public final class EdgesTest {
    private static final Check CHECK = new Check();
    private static final int[] EDGES = {Integer.MIN_VALUE, -1, 0, 1, 2, 3, 6, 7, 8, 9, 20, 21, 32, 33, 35, 36, 50, 51,
        60, 100, 101, 126, 127, 200, 201, 999, 1000, Integer.MAX_VALUE};

    /** A call with up to three numbers. */
    private interface Call<T> {
        int answer(T grid, int one, int two, int three);
    }

    public static void main(String[] args) {
        one("unbar", (g, a, b, c) -> g.unbar(a), (p, a, b, c) -> p.unbar(a));
        one("step", (g, a, b, c) -> g.step(a), (p, a, b, c) -> p.step(a));
        one("append", (g, a, b, c) -> g.append(a), (p, a, b, c) -> p.append(a));
        one("count", (g, a, b, c) -> g.count(a), (p, a, b, c) -> p.count(a));
        one("pointing", (g, a, b, c) -> g.pointing(a), (p, a, b, c) -> p.pointing(a));
        one("setting", (g, a, b, c) -> g.setting(a), (p, a, b, c) -> p.setting(a));
        one("leastTurns", (g, a, b, c) -> g.leastTurns(a), (p, a, b, c) -> p.leastTurns(a));
        two("needle", (g, a, b, c) -> g.needle(a, b), (p, a, b, c) -> p.needle(a, b));
        two("friction", (g, a, b, c) -> g.friction(a, b), (p, a, b, c) -> p.friction(a, b));
        two("hold", (g, a, b, c) -> g.hold(a, b > 0), (p, a, b, c) -> p.hold(a, b > 0));
        two("swap", (g, a, b, c) -> g.swap(a, b), (p, a, b, c) -> p.swap(a, b));
        two("coil", (g, a, b, c) -> g.coil(a, b), (p, a, b, c) -> p.coil(a, b));
        two("set", (g, a, b, c) -> g.set(a, b), (p, a, b, c) -> p.set(a, b));
        two("cell", (g, a, b, c) -> g.cell(a, b), (p, a, b, c) -> p.cell(a, b));
        two("barOf", (g, a, b, c) -> g.barOf(a, b), (p, a, b, c) -> p.barOf(a, b));
        two("points", (g, a, b, c) -> g.points(a, b), (p, a, b, c) -> p.points(a, b));
        three("bar", (g, a, b, c) -> g.bar(a, b, c), (p, a, b, c) -> p.bar(a, b, c));
        three("ifBar", (g, a, b, c) -> g.ifBar(a, b, c), (p, a, b, c) -> p.ifBar(a, b, c));
        three("bestBar", (g, a, b, c) -> g.bestBar(a, b, c), (p, a, b, c) -> p.bestBar(a, b, c));
        CHECK.end("EdgesTest");
    }

    private static void one(String name, Call<NeedleGrid> call, Call<PlainGrid> plain) {
        for (int one : EDGES) {
            same(name, call, plain, one, 0, 0);
        }
    }

    private static void two(String name, Call<NeedleGrid> call, Call<PlainGrid> plain) {
        for (int one : EDGES) {
            for (int two : EDGES) {
                same(name, call, plain, one, two, 0);
            }
        }
    }

    private static void three(String name, Call<NeedleGrid> call, Call<PlainGrid> plain) {
        for (int one : EDGES) {
            for (int two : EDGES) {
                for (int three : EDGES) {
                    same(name, call, plain, one, two, three);
                }
            }
        }
    }

    private static void same(String name, Call<NeedleGrid> call, Call<PlainGrid> plain, int one, int two, int three) {
        NeedleGrid grid = new NeedleGrid();
        PlainGrid other = new PlainGrid();
        for (int cell = 1; cell <= 36; cell += 7) {
            grid.bar(cell - 1, cell % 8, cell);
            other.bar(cell - 1, cell % 8, cell);
        }
        String text = name + " " + one + " " + two + " " + three;
        String got = answer(call, grid, one, two, three);
        CHECK.due(text, got, answer(plain, other, one, two, three));
        CHECK.due("saved states behind " + text, grid.count(8), other.count(8));
    }

    private static <T> String answer(Call<T> call, T grid, int one, int two, int three) {
        try {
            return String.valueOf(call.answer(grid, one, two, three));
        } catch (RuntimeException thrown) {
            return thrown.getClass().getName();
        }
    }
}
