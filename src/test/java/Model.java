import java.util.Arrays;
import java.util.HashSet;
import java.util.Set;

/**
 * The document once more, in other ways than the class: a die of six faces that are moved as its
 * terms say, searches forward only, step by step, and no search saved by any reasoning.
 */
final class Model {
    private static final int NORTH = 0;
    private static final int EAST = 1;
    private static final int SOUTH = 2;
    private static final int WEST = 3;
    private static final int[] COLUMNS = {0, 1, 0, -1};
    private static final int[] ROWS = {-1, 0, 1, 0};

    /** A cell and all six faces; copied for every roll that is only thought of. */
    private static final class Lie {
        int column;
        int row;
        int top = 1;
        int bottom = 6;
        int[] side = {2, 3, 5, 4};

        Lie(int column, int row) {
            this.column = column;
            this.row = row;
        }

        Lie rolled(int direction) {
            Lie next = new Lie(column + COLUMNS[direction], row + ROWS[direction]);
            int across = (direction + 2) % 4;
            next.side = side.clone();
            next.bottom = side[direction];
            next.side[direction] = top;
            next.side[across] = bottom;
            next.top = side[across];
            return next;
        }

        int key() {
            return ((column * 7 + row) * 6 + top - 1) * 6 + side[NORTH] - 1;
        }
    }

    private int w;
    private int h;
    private boolean[][] wall;
    private int[][] print;
    private final int[] colour = {0, 1, 2, 3, 4, 5, 6};
    private final int[] paint = new int[7];
    private Lie die;
    private int rolls;
    private int prints;

    Model() {
        newBoard(5, 5);
    }

    int newBoard(int width, int height) {
        if (width < 2 || width > 7 || height < 2 || height > 7) {
            throw new IllegalArgumentException();
        }
        w = width;
        h = height;
        wall = new boolean[w][h];
        print = new int[w][h];
        die = new Lie(0, 0);
        rolls = 0;
        prints = 0;
        return w * h;
    }

    boolean turnWall(int column, int row) {
        needCell(column, row);
        if (column == die.column && row == die.row) {
            throw new IllegalStateException();
        }
        wall[column][row] = !wall[column][row];
        return wall[column][row];
    }

    int setColour(int face, int c) {
        needFace(face);
        if (c < 1 || c > 9) {
            throw new IllegalArgumentException();
        }
        int before = colour[face];
        colour[face] = c;
        return before;
    }

    int addPaint(int face, int p) {
        needFace(face);
        if (p < 1 || p > 20) {
            throw new IllegalArgumentException();
        }
        for (int given = 0; given < p && paint[face] < 20; given++) {
            paint[face]++;
        }
        return paint[face];
    }

    int put(int column, int row) {
        needCell(column, row);
        if (wall[column][row]) {
            throw new IllegalStateException();
        }
        int far = Math.abs(column - die.column) + Math.abs(row - die.row);
        die = new Lie(column, row);
        return far;
    }

    int roll(int direction) {
        if (!canRoll(direction)) {
            throw new IllegalStateException();
        }
        die = die.rolled(direction);
        rolls++;
        if (paint[die.bottom] > 0) {
            print[die.column][die.row] = colour[die.bottom];
            paint[die.bottom]--;
            prints++;
        }
        return die.bottom;
    }

    int rollOn(int direction, int most) {
        needDirection(direction);
        if (most < 1 || most > 50) {
            throw new IllegalArgumentException();
        }
        for (int made = 0; made < most; made++) {
            if (!canRoll(direction)) {
                return made;
            }
            roll(direction);
        }
        return most;
    }

    int column() {
        return die.column;
    }

    int row() {
        return die.row;
    }

    int top() {
        return die.top;
    }

    int bottom() {
        return die.bottom;
    }

    int faceTo(int direction) {
        needDirection(direction);
        return die.side[direction];
    }

    boolean isAsAtFirst() {
        return die.top == 1 && die.bottom == 6 && Arrays.equals(die.side, new int[] {2, 3, 5, 4});
    }

    int colourOf(int face) {
        needFace(face);
        return colour[face];
    }

    int paintOf(int face) {
        needFace(face);
        return paint[face];
    }

    boolean isWall(int column, int row) {
        needCell(column, row);
        return wall[column][row];
    }

    int printAt(int column, int row) {
        needCell(column, row);
        return print[column][row];
    }

    boolean canRoll(int direction) {
        needDirection(direction);
        return isOpen(die, direction);
    }

    int width() {
        return w;
    }

    int height() {
        return h;
    }

    int walls() {
        int count = 0;
        for (boolean[] column : wall) {
            for (boolean is : column) {
                count += is ? 1 : 0;
            }
        }
        return count;
    }

    int rolls() {
        return rolls;
    }

    int prints() {
        return prints;
    }

    int cellsWith(int c) {
        if (c < 0 || c > 9) {
            throw new IndexOutOfBoundsException();
        }
        int count = 0;
        for (int[] column : print) {
            for (int on : column) {
                count += on == c ? 1 : 0;
            }
        }
        return count;
    }

    int fewestRolls(int column, int row) {
        needCell(column, row);
        int[] far = distances(die);
        int least = -1;
        for (int face = 1; face <= 6; face++) {
            int f = withTop(far, column, row, face);
            if (f != -1 && (least == -1 || f < least)) {
                least = f;
            }
        }
        return least;
    }

    int fewestRollsWithTop(int column, int row, int face) {
        needCell(column, row);
        needFace(face);
        return withTop(distances(die), column, row, face);
    }

    int firstRoll(int column, int row, int face) {
        int fewest = fewestRollsWithTop(column, row, face);
        if (fewest <= 0) {
            return -1;
        }
        for (int direction = 0; direction < 4; direction++) {
            if (isOpen(die, direction)
                    && withTop(distances(die.rolled(direction)), column, row, face) == fewest - 1) {
                return direction;
            }
        }
        throw new AssertionError("few rolls have a first one");
    }

    int topsAt(int column, int row) {
        needCell(column, row);
        int[] far = distances(die);
        int count = 0;
        for (int face = 1; face <= 6; face++) {
            count += withTop(far, column, row, face) != -1 ? 1 : 0;
        }
        return count;
    }

    int cellsWithinReach() {
        int[] far = distances(die);
        Set<Integer> cells = new HashSet<>();
        for (int key = 0; key < far.length; key++) {
            if (far[key] != -1) {
                cells.add(key / 36);
            }
        }
        return cells.size();
    }

    int waysToLie() {
        int count = 0;
        for (int far : distances(die)) {
            count += far != -1 ? 1 : 0;
        }
        return count;
    }

    int cellsBehind(int most) {
        if (most < 0 || most > 20) {
            throw new IllegalArgumentException();
        }
        boolean[][] on = new boolean[w][h];
        on[die.column][die.row] = true;
        for (int made = 0; made < most; made++) {
            on = cellsBeside(on);
        }
        int count = 0;
        for (boolean[] column : on) {
            for (boolean is : column) {
                count += is ? 1 : 0;
            }
        }
        return count;
    }

    int bestPut(int face) {
        needFace(face);
        int best = -1;
        int fewest = -1;
        for (int row = 0; row < h; row++) {
            for (int column = 0; column < w; column++) {
                if (!wall[column][row]) {
                    int needed = withTop(distances(new Lie(column, row)), die.column, die.row, face);
                    if (needed != -1 && (fewest == -1 || needed < fewest)) {
                        fewest = needed;
                        best = w * row + column;
                    }
                }
            }
        }
        return best;
    }

    double meanPaint() {
        return (paint[1] + paint[2] + paint[3] + paint[4] + paint[5] + paint[6]) / 6.0;
    }

    long digest() {
        long[] d = {1901};
        add(d, w, h, walls(), rolls, prints, die.column, die.row, die.top, die.bottom);
        add(d, die.side[NORTH], die.side[EAST], die.side[SOUTH], die.side[WEST]);
        for (int face = 1; face <= 6; face++) {
            add(d, colour[face], paint[face]);
        }
        for (int row = 0; row < h; row++) {
            for (int column = 0; column < w; column++) {
                add(d, wall[column][row] ? 1 : 0, print[column][row]);
                add(d, fewestRolls(column, row), topsAt(column, row));
            }
        }
        return d[0];
    }

    private static void add(long[] d, int... numbers) {
        for (int x : numbers) {
            d[0] = d[0] * 31 + x;
        }
    }

    private boolean[][] cellsBeside(boolean[][] on) {
        boolean[][] next = new boolean[w][h];
        for (int column = 0; column < w; column++) {
            for (int row = 0; row < h; row++) {
                for (int direction = 0; on[column][row] && direction < 4; direction++) {
                    if (isOpen(new Lie(column, row), direction)) {
                        next[column + COLUMNS[direction]][row + ROWS[direction]] = true;
                    }
                }
            }
        }
        return next;
    }

    private boolean isOpen(Lie from, int direction) {
        int column = from.column + COLUMNS[direction];
        int row = from.row + ROWS[direction];
        return isCell(column, row) && !wall[column][row];
    }

    private int[] distances(Lie start) {
        int[] far = new int[7 * 7 * 36];
        Arrays.fill(far, -1);
        Lie[] line = new Lie[far.length];
        int end = 0;
        far[start.key()] = 0;
        line[end++] = start;
        for (int at = 0; at < end; at++) {
            for (int direction = 0; direction < 4; direction++) {
                if (isOpen(line[at], direction)) {
                    Lie next = line[at].rolled(direction);
                    if (far[next.key()] == -1) {
                        far[next.key()] = far[line[at].key()] + 1;
                        line[end++] = next;
                    }
                }
            }
        }
        return far;
    }

    private static int withTop(int[] far, int column, int row, int face) {
        int least = -1;
        for (int north = 0; north < 6; north++) {
            int f = far[((column * 7 + row) * 6 + face - 1) * 6 + north];
            if (f != -1 && (least == -1 || f < least)) {
                least = f;
            }
        }
        return least;
    }

    private boolean isCell(int column, int row) {
        return column >= 0 && column < w && row >= 0 && row < h;
    }

    private void needCell(int column, int row) {
        if (!isCell(column, row)) {
            throw new IndexOutOfBoundsException();
        }
    }

    private static void needFace(int face) {
        if (face < 1 || face > 6) {
            throw new IndexOutOfBoundsException();
        }
    }

    private static void needDirection(int direction) {
        if (direction < 0 || direction > 3) {
            throw new IndexOutOfBoundsException();
        }
    }
}
