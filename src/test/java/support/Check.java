import java.util.function.IntConsumer;

/** Counts the answers of a test that are not as due, and ends it. */
final class Check {
    private static final Class<IndexOutOfBoundsException> NO_SUCH = IndexOutOfBoundsException.class;
    private static final Class<IllegalArgumentException> OUT_OF_RANGE = IllegalArgumentException.class;
    private static final Class<IllegalStateException> WRONG_STATE = IllegalStateException.class;

    private String about = "";
    private int answers;
    private int wrong;

    /** What the next answers are about; told ahead of each that is not as due. */
    void about(String text) {
        about = text;
    }

    int answers() {
        return answers;
    }

    void due(String call, long got, long want) {
        note(got == want, call, String.valueOf(got), String.valueOf(want));
    }

    void due(String call, boolean got, boolean want) {
        note(got == want, call, String.valueOf(got), String.valueOf(want));
    }

    void due(String call, String got, String want) {
        note(got.equals(want), call, got, want);
    }

    void dueShare(String call, double got, double want) {
        boolean isSame = Double.doubleToRawLongBits(got) == Double.doubleToRawLongBits(want);
        note(isSame, call, String.valueOf(got), String.valueOf(want));
    }

    /** The call throws IndexOutOfBoundsException, no subclass of it, and changes nothing. */
    void noSuch(NeedleGrid grid, String call, Runnable body) {
        throwsDue(grid, call, NO_SUCH, body);
    }

    /** The call throws IllegalArgumentException, no subclass of it, and changes nothing. */
    void outOfRange(NeedleGrid grid, String call, Runnable body) {
        throwsDue(grid, call, OUT_OF_RANGE, body);
    }

    /** The call throws IllegalStateException, no subclass of it, and changes nothing. */
    void wrongState(NeedleGrid grid, String call, Runnable body) {
        throwsDue(grid, call, WRONG_STATE, body);
    }

    /** The call throws IndexOutOfBoundsException with each number beyond the range. */
    void noSuchBeyond(NeedleGrid grid, String call, int least, int most, IntConsumer body) {
        for (int number : beyond(least, most)) {
            noSuch(grid, call + " of " + number, () -> body.accept(number));
        }
    }

    /** The call throws IllegalArgumentException with each number beyond the range. */
    void outOfRangeBeyond(NeedleGrid grid, String call, int least, int most, IntConsumer body) {
        for (int number : beyond(least, most)) {
            outOfRange(grid, call + " of " + number, () -> body.accept(number));
        }
    }

    /** The numbers just too small and just too large, and the farthest ones. */
    private static int[] beyond(int least, int most) {
        return new int[] {least - 1, most + 1, Integer.MIN_VALUE, Integer.MAX_VALUE};
    }

    /** The call saves the state from before it, and undo brings that back; fewer than 6 may be saved ahead. */
    void undoable(NeedleGrid grid, String call, Runnable body) {
        int saved = grid.count(8);
        long before = grid.digest();
        body.run();
        due("saved states behind " + call, grid.count(8), saved + 1);
        due("undo of " + call, grid.undo(), saved);
        due("digest behind undo of " + call, grid.digest(), before);
    }

    private void throwsDue(NeedleGrid grid, String call, Class<? extends RuntimeException> want, Runnable body) {
        long before = grid.digest();
        String got = "nothing thrown";
        try {
            body.run();
        } catch (RuntimeException thrown) {
            got = thrown.getClass().getName();
        }
        due(call, got, want.getName());
        due("digest behind " + call, grid.digest(), before);
    }

    private void note(boolean isRight, String call, String got, String want) {
        answers++;
        if (!isRight) {
            wrong++;
            System.out.println(about + call + " answered " + got + ", due is " + want);
        }
    }

    void end(String name) {
        System.out.println(name + ": " + answers + " answers, " + wrong + " not as due");
        if (wrong != 0 || answers == 0) {
            System.exit(1);
        }
    }

    /** Appends the characters of a text, one by one. */
    static void type(NeedleGrid grid, String text) {
        for (int index = 0; index < text.length(); index++) {
            grid.append(text.charAt(index));
        }
    }
}
