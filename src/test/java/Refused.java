import java.util.ArrayList;
import java.util.Arrays;
import java.util.List;

/** Calls that are refused: by just the exception that is due, and with nothing changed behind it. */
final class Refused {
    static final String OUTSIDE = "java.lang.IndexOutOfBoundsException";
    static final String ARGUMENT = "java.lang.IllegalArgumentException";
    static final String STATE = "java.lang.IllegalStateException";

    private Refused() {
    }

    static void inEveryState(String due, String name, int... arguments) {
        for (State state : State.values()) {
            in(state, due, name, arguments);
        }
    }

    static void in(State state, String due, String name, int... arguments) {
        PaintedDie x = state.made();
        Ask ask = new Ask(name, arguments);
        Due.is(state + ", " + ask, ask.of(x), due);
        Due.is(state + ", what there is behind " + ask, View.of(x), state.view());
    }

    static void by(PaintedDie x, String due, String name, int... arguments) {
        String before = View.of(x);
        Ask ask = new Ask(name, arguments);
        Due.is(ask.toString(), ask.of(x), due);
        Due.is("what there is behind " + ask, View.of(x), before);
    }

    /** One less, one more, the farthest ones, and those whose lowest bits are a number from low to high. */
    static int[] numbersBeside(int low, int high) {
        return new int[] {low - 1, high + 1, -1 - high, low - 256, low + 256, high + 256, low - (1 << 16), high + (1 << 16),
            Integer.MIN_VALUE, Integer.MIN_VALUE + low, Integer.MIN_VALUE + high, Integer.MAX_VALUE};
    }

    /** Cells that are not on the board, with these further arguments behind the column and the row. */
    static void cellsOutside(String name, int... further) {
        for (State state : State.values()) {
            PaintedDie x = state.made();
            for (int[] cell : cellsBeside(x.width(), x.height())) {
                in(state, OUTSIDE, name, joined(cell, further));
            }
        }
        for (int w = 2; w <= 7; w++) {
            for (int h = 2; h <= 7; h++) {
                edgesOf(w, h, name, further);
            }
        }
    }

    private static List<int[]> cellsBeside(int w, int h) {
        List<int[]> cells = new ArrayList<>();
        for (int no : numbersBeside(0, w - 1)) {
            cells.add(new int[] {no, 0});
            cells.add(new int[] {no, h - 1});
        }
        for (int no : numbersBeside(0, h - 1)) {
            cells.add(new int[] {0, no});
            cells.add(new int[] {w - 1, no});
        }
        cells.add(new int[] {-1, -1});
        cells.add(new int[] {w, h});
        cells.add(new int[] {7, 0});
        cells.add(new int[] {0, 7});
        // Times the width, these wrap around to the number of a cell.
        for (int no : new int[] {1 << 30, 1431655766, 858993460, 715827883, 613566757}) {
            cells.add(new int[] {0, no});
            cells.add(new int[] {no, 0});
        }
        return cells;
    }

    /** The last cells of a board are taken, those behind them refused. */
    private static void edgesOf(int w, int h, String name, int... further) {
        PaintedDie x = State.board(w, h);
        String before = View.of(x);
        int[][] outside = {{-1, 0}, {0, -1}, {w, 0}, {0, h}, {w, h - 1}, {w - 1, h}, {-1, h - 1}, {w - 1, -1}};
        for (int[] cell : outside) {
            Ask ask = new Ask(name, joined(cell, further));
            Due.is(w + " by " + h + ", " + ask, ask.of(x), OUTSIDE);
        }
        Due.is(w + " by " + h + ", what there is behind these", View.of(x), before);
        int[][] inside = {{0, 0}, {w - 1, 0}, {0, h - 1}, {w - 1, h - 1}};
        for (int[] cell : inside) {
            Ask ask = new Ask(name, joined(cell, further));
            Object got = ask.of(State.board(w, h));
            Due.is(w + " by " + h + ", whether there is no cell for " + ask, got.equals(OUTSIDE), false);
        }
    }

    private static int[] joined(int[] first, int[] further) {
        int[] all = Arrays.copyOf(first, first.length + further.length);
        System.arraycopy(further, 0, all, first.length, further.length);
        return all;
    }

    /** In every state the numbers from low to high are taken as the first argument, those beside them refused. */
    static void firstArgument(String due, int low, int high, String name, int... last) {
        for (int no : numbersBeside(low, high)) {
            inEveryState(due, name, joined(new int[] {no}, last));
        }
        for (int yes = low; yes <= high; yes++) {
            inNoState(due, name, joined(new int[] {yes}, last));
        }
    }

    /** The same for the last argument. */
    static void lastArgument(String due, int low, int high, String name, int... first) {
        for (int no : numbersBeside(low, high)) {
            inEveryState(due, name, joined(first, new int[] {no}));
        }
        for (int yes = low; yes <= high; yes++) {
            inNoState(due, name, joined(first, new int[] {yes}));
        }
    }

    private static void inNoState(String by, String name, int... arguments) {
        for (State state : State.values()) {
            Ask ask = new Ask(name, arguments);
            Due.is(state + ", whether " + ask + " is refused", ask.of(state.made()).equals(by), false);
        }
    }
}
