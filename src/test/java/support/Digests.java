import java.util.ArrayList;
import java.util.List;

/** The digest, put together from the answers of the other calls in the order that promise 27 names. */
final class Digests {
    private Digests() {
    }

    /** The calls of an object; some 350 of them make a digest, so an object bears that once. */
    record Asked(NeedleGrid grid) implements Looks {
        @Override
        public int count(int what) {
            return grid.count(what);
        }

        @Override
        public int setting(int setting) {
            return grid.setting(setting);
        }

        @Override
        public int cell(int cell, int what) {
            return grid.cell(cell, what);
        }

        @Override
        public int barOf(int place, int what) {
            return grid.barOf(place, what);
        }

        @Override
        public int pointing(int direction) {
            return grid.pointing(direction);
        }

        @Override
        public int restsIn() {
            return grid.restsIn();
        }

        @Override
        public int points(int cell, int steps) {
            return grid.points(cell, steps);
        }

        @Override
        public int ifBar(int cell, int direction, int strength) {
            return grid.ifBar(cell, direction, strength);
        }

        @Override
        public int bestBar(int cell, int direction, int strength) {
            return grid.bestBar(cell, direction, strength);
        }

        @Override
        public int leastTurns(int cell) {
            return grid.leastTurns(cell);
        }

        @Override
        public double obedience() {
            return grid.obedience();
        }
    }

    /** The buffer is told, as no call shows it. */
    static long byTheDocument(Looks grid, String buffer) {
        List<Long> values = new ArrayList<>();
        for (int what = 0; what <= 8; what++) {
            values.add((long) grid.count(what));
        }
        for (int setting = 0; setting <= 2; setting++) {
            values.add((long) grid.setting(setting));
        }
        for (int cell = 0; cell < 36; cell++) {
            for (int what = 0; what <= 7; what++) {
                values.add((long) grid.cell(cell, what));
            }
        }
        for (int place = 0; place < grid.count(1); place++) {
            for (int what = 0; what <= 2; what++) {
                values.add((long) grid.barOf(place, what));
            }
        }
        for (int direction = 0; direction <= 7; direction++) {
            values.add((long) grid.pointing(direction));
        }
        values.add((long) grid.restsIn());
        values.add((long) grid.points(0, 9));
        values.add((long) grid.points(14, 9));
        values.add((long) grid.points(35, 9));
        values.add((long) grid.ifBar(14, 2, 20));
        values.add((long) grid.bestBar(20, 0, 30));
        values.add((long) grid.leastTurns(7));
        values.add(Double.doubleToLongBits(grid.obedience()));
        values.add((long) buffer.length());
        for (char code : buffer.toCharArray()) {
            values.add((long) code);
        }
        long hash = 3167;
        for (long value : values) {
            hash = 31 * hash + value;
        }
        return hash;
    }
}
