import java.util.Arrays;

/** A painted die on a board. */
public final class PaintedDie {
    private static final int SMALLEST_SIDE = 2;
    private static final int LARGEST_SIDE = 7;
    private static final int SIDE_AT_FIRST = 5;
    private static final int MOST_CELLS = LARGEST_SIDE * LARGEST_SIDE;
    private static final int CELL_AT_FIRST = 0;

    private static final int FACES = 6;
    private static final int FACE_AND_FACE_ACROSS = 7;
    private static final int COLOURS = 9;
    private static final int MOST_PAINT = 20;

    private static final int DIRECTIONS = 4;
    private static final int NORTH = 0;
    private static final int EAST = 1;
    private static final int SOUTH = 2;
    private static final int WEST = 3;

    private static final int MOST_ROLLS_ON = 50;
    private static final int MOST_ROLLS_BEHIND = 20;

    /** Stands for a cell, a number of rolls or a direction that there is not. */
    private static final int NONE = -1;

    private final Board board;
    private final Search search;
    // Indexed by the face itself, so that place 0 of both rows is idle.
    private final int[] colours;
    private final int[] paints;
    private int cell;
    private int turn;
    private int rollsMade;
    private int printsMade;

    public PaintedDie() {
        board = new Board();
        search = new Search();
        colours = new int[FACES + 1];
        paints = new int[FACES + 1];
        for (int face = 1; face <= FACES; face++) {
            colours[face] = face;
        }
        startOn(SIDE_AT_FIRST, SIDE_AT_FIRST);
    }

    // ---- board and die

    public int newBoard(int w, int h) throws IllegalArgumentException {
        if (!isSide(w) || !isSide(h)) {
            throw new IllegalArgumentException("a board is 2 to 7 cells wide and high");
        }
        startOn(w, h);
        return w * h;
    }

    public boolean turnWall(int column, int row) throws IndexOutOfBoundsException, IllegalStateException {
        checkCell(column, row);
        int turned = Board.cellAt(column, row);
        if (turned == cell) {
            throw new IllegalStateException("the die lies there");
        }
        return board.turnOver(turned);
    }

    public int setColour(int face, int colour) throws IndexOutOfBoundsException, IllegalArgumentException {
        checkFace(face);
        if (colour < 1 || colour > COLOURS) {
            throw new IllegalArgumentException("a colour is 1 to 9");
        }
        int before = colours[face];
        colours[face] = colour;
        return before;
    }

    public int addPaint(int face, int paint) throws IndexOutOfBoundsException, IllegalArgumentException {
        checkFace(face);
        if (paint < 1 || paint > MOST_PAINT) {
            throw new IllegalArgumentException("paint is given from 1 to 20");
        }
        paints[face] = Math.min(MOST_PAINT, paints[face] + paint);
        return paints[face];
    }

    public int put(int column, int row) throws IndexOutOfBoundsException, IllegalStateException {
        checkCell(column, row);
        if (!board.isFree(column, row)) {
            throw new IllegalStateException("a wall is there");
        }
        int far = Math.abs(column - column()) + Math.abs(row - row());
        cell = Board.cellAt(column, row);
        turn = Turn.AT_FIRST;
        return far;
    }

    public int roll(int direction) throws IndexOutOfBoundsException, IllegalStateException {
        checkDirection(direction);
        if (!rollOnce(direction)) {
            throw new IllegalStateException("this roll cannot be made");
        }
        return bottom();
    }

    public int rollOn(int direction, int rolls) throws IndexOutOfBoundsException, IllegalArgumentException {
        checkDirection(direction);
        if (rolls < 1 || rolls > MOST_ROLLS_ON) {
            throw new IllegalArgumentException("rolls are 1 to 50");
        }
        int made = 0;
        while (made < rolls && rollOnce(direction)) {
            made++;
        }
        return made;
    }

    // ---- what there is

    public int column() {
        return Board.columnOf(cell);
    }

    public int row() {
        return Board.rowOf(cell);
    }

    public int top() {
        return Turn.topOf(turn);
    }

    public int bottom() {
        return FACE_AND_FACE_ACROSS - top();
    }

    public int faceTo(int direction) throws IndexOutOfBoundsException {
        checkDirection(direction);
        return Turn.faceOn(turn, direction);
    }

    public boolean isAsAtFirst() {
        return turn == Turn.AT_FIRST;
    }

    public int colourOf(int face) throws IndexOutOfBoundsException {
        checkFace(face);
        return colours[face];
    }

    public int paintOf(int face) throws IndexOutOfBoundsException {
        checkFace(face);
        return paints[face];
    }

    public boolean isWall(int column, int row) throws IndexOutOfBoundsException {
        checkCell(column, row);
        return !board.isFree(column, row);
    }

    public int printAt(int column, int row) throws IndexOutOfBoundsException {
        checkCell(column, row);
        return board.printOn(column, row);
    }

    public boolean canRoll(int direction) throws IndexOutOfBoundsException {
        checkDirection(direction);
        return board.nextCell(cell, direction) != NONE;
    }

    public int width() {
        return board.width;
    }

    public int height() {
        return board.height;
    }

    public int walls() {
        return board.countWalls();
    }

    public int rolls() {
        return rollsMade;
    }

    public int prints() {
        return printsMade;
    }

    public int cellsWith(int colour) throws IndexOutOfBoundsException {
        if (colour < 0 || colour > COLOURS) {
            throw new IndexOutOfBoundsException("a print is 0 to 9");
        }
        return board.countPrints(colour);
    }

    // ---- what would be

    public int fewestRolls(int column, int row) throws IndexOutOfBoundsException {
        checkCell(column, row);
        searchFromHere();
        return search.fewestTo(Board.cellAt(column, row));
    }

    public int fewestRollsWithTop(int column, int row, int face) throws IndexOutOfBoundsException {
        checkCell(column, row);
        checkFace(face);
        searchFromHere();
        return search.fewestWithTop(Board.cellAt(column, row), face);
    }

    public int firstRoll(int column, int row, int face) throws IndexOutOfBoundsException {
        checkCell(column, row);
        checkFace(face);
        searchBackFrom(Board.cellAt(column, row), face);
        int left = search.rollsAt(cell, turn);
        if (left == NONE || left == 0) {
            return NONE;
        }
        for (int direction = 0; direction < DIRECTIONS; direction++) {
            int next = board.nextCell(cell, direction);
            if (next != NONE && search.rollsAt(next, Turn.behindRoll(turn, direction)) == left - 1) {
                return direction;
            }
        }
        return NONE;
    }

    public int topsAt(int column, int row) throws IndexOutOfBoundsException {
        checkCell(column, row);
        searchFromHere();
        return search.countTops(Board.cellAt(column, row));
    }

    public int cellsWithinReach() {
        searchFromHere();
        int count = 0;
        for (int there = 0; there < MOST_CELLS; there++) {
            if (search.fewestTo(there) != NONE) {
                count++;
            }
        }
        return count;
    }

    public int waysToLie() {
        searchFromHere();
        return search.found;
    }

    public int cellsBehind(int rolls) throws IllegalArgumentException {
        if (rolls < 0 || rolls > MOST_ROLLS_BEHIND) {
            throw new IllegalArgumentException("rolls are 0 to 20");
        }
        if (rolls > 0 && isShutIn()) {
            return 0;
        }
        searchFromHere();
        int count = 0;
        for (int there = 0; there < MOST_CELLS; there++) {
            int fewest = search.fewestTo(there);
            // A roll there and back spends two, and every roll changes between the
            // two shades of a chessboard: so only an even number can be left over.
            if (fewest != NONE && fewest <= rolls && (rolls - fewest) % 2 == 0) {
                count++;
            }
        }
        return count;
    }

    public int bestPut(int face) throws IndexOutOfBoundsException {
        checkFace(face);
        searchBackFrom(cell, face);
        int best = NONE;
        int fewest = NONE;
        for (int row = 0; row < board.height; row++) {
            for (int column = 0; column < board.width; column++) {
                int needed = search.rollsAt(Board.cellAt(column, row), Turn.AT_FIRST);
                if (needed != NONE && (best == NONE || needed < fewest)) {
                    fewest = needed;
                    best = board.width * row + column;
                }
            }
        }
        return best;
    }

    public double meanPaint() {
        int sum = 0;
        for (int face = 1; face <= FACES; face++) {
            sum += paints[face];
        }
        return (double) sum / FACES;
    }

    public long digest() {
        long d = 1901;
        d = joined(d, width());
        d = joined(d, height());
        d = joined(d, walls());
        d = joined(d, rolls());
        d = joined(d, prints());
        d = joined(d, column());
        d = joined(d, row());
        d = joined(d, top());
        d = joined(d, bottom());
        for (int direction = 0; direction < DIRECTIONS; direction++) {
            d = joined(d, Turn.faceOn(turn, direction));
        }
        for (int face = 1; face <= FACES; face++) {
            d = joined(d, colours[face]);
            d = joined(d, paints[face]);
        }
        return joinedWithCells(d);
    }

    // ---- behind the face

    private long joinedWithCells(long start) {
        // One search answers for every cell; a call of fewestRolls() would search anew each time.
        searchFromHere();
        long d = start;
        for (int row = 0; row < board.height; row++) {
            for (int column = 0; column < board.width; column++) {
                int there = Board.cellAt(column, row);
                d = joined(d, board.isFree(column, row) ? 0 : 1);
                d = joined(d, board.printOn(column, row));
                d = joined(d, search.fewestTo(there));
                d = joined(d, search.countTops(there));
            }
        }
        return d;
    }

    private static long joined(long d, int x) {
        return d * 31 + x;
    }

    private void startOn(int w, int h) {
        board.layOut(w, h);
        cell = CELL_AT_FIRST;
        turn = Turn.AT_FIRST;
        rollsMade = 0;
        printsMade = 0;
    }

    private boolean rollOnce(int direction) {
        int next = board.nextCell(cell, direction);
        if (next == NONE) {
            return false;
        }
        cell = next;
        turn = Turn.behindRoll(turn, direction);
        rollsMade++;
        printHere();
        return true;
    }

    private void printHere() {
        int face = bottom();
        if (isFace(face) && paints[face] > 0) {
            board.printOnto(cell, colours[face]);
            paints[face]--;
            printsMade++;
        }
    }

    private boolean isShutIn() {
        for (int direction = 0; direction < DIRECTIONS; direction++) {
            if (board.nextCell(cell, direction) != NONE) {
                return false;
            }
        }
        return true;
    }

    private void searchFromHere() {
        search.forget();
        search.reach(cell, turn, 0);
        search.spread(board);
    }

    /**
     * Every roll is undone by the one in the direction across from it. So a search that starts
     * where the rolls shall end tells of every other way to lie how many rolls are left.
     */
    private void searchBackFrom(int end, int face) {
        search.forget();
        if (!board.isFreeCell(end)) {
            return;
        }
        for (int north = 1; north <= FACES; north++) {
            if (north != face && north != FACE_AND_FACE_ACROSS - face) {
                search.reach(end, Turn.with(face, north), 0);
            }
        }
        search.spread(board);
    }

    private void checkCell(int column, int row) {
        if (!board.has(column, row)) {
            throw new IndexOutOfBoundsException("there is no such cell");
        }
    }

    private static void checkFace(int face) {
        if (!isFace(face)) {
            throw new IndexOutOfBoundsException("a face is 1 to 6");
        }
    }

    private static void checkDirection(int direction) {
        if (direction < 0 || direction >= DIRECTIONS) {
            throw new IndexOutOfBoundsException("a direction is 0 to 3");
        }
    }

    private static boolean isFace(int face) {
        return face >= 1 && face <= FACES;
    }

    private static boolean isSide(int cells) {
        return cells >= SMALLEST_SIDE && cells <= LARGEST_SIDE;
    }

    /**
     * How a die is turned, as one number made of the face on top and the face to the north:
     * a number needs no object for each of the many ways to lie that a search goes through.
     */
    private static final class Turn {
        private static final int TURNS = FACES * FACES;
        private static final int AT_FIRST = 1;
        private static final int AXES = 3;

        private static int with(int top, int north) {
            return (top - 1) * FACES + (north - 1);
        }

        private static int topOf(int turn) {
            return turn / FACES + 1;
        }

        private static int northOf(int turn) {
            return turn % FACES + 1;
        }

        /**
         * The axis that neither the top nor the north takes is left for the east. Of its two
         * faces it is the low one at first (1, 2, 3), and every change of the top or the north to
         * the high face of its axis, and of the order of these axes, changes it to the other one.
         */
        private static int eastOf(int turn) {
            int top = topOf(turn);
            int north = northOf(turn);
            int low = AXES + AXES - axisOf(top) - axisOf(north);
            boolean isLow = (axisOf(north) - axisOf(top) + AXES) % AXES == 1;
            if (top > AXES) {
                isLow = !isLow;
            }
            if (north > AXES) {
                isLow = !isLow;
            }
            return isLow ? low : FACE_AND_FACE_ACROSS - low;
        }

        private static int axisOf(int face) {
            return face <= AXES ? face : FACE_AND_FACE_ACROSS - face;
        }

        private static int faceOn(int turn, int direction) {
            switch (direction) {
                case NORTH:
                    return northOf(turn);
                case EAST:
                    return eastOf(turn);
                case SOUTH:
                    return FACE_AND_FACE_ACROSS - northOf(turn);
                default:
                    return FACE_AND_FACE_ACROSS - eastOf(turn);
            }
        }

        private static int behindRoll(int turn, int direction) {
            int top = topOf(turn);
            int north = northOf(turn);
            switch (direction) {
                case NORTH:
                    return with(FACE_AND_FACE_ACROSS - north, top);
                case EAST:
                    return with(FACE_AND_FACE_ACROSS - eastOf(turn), north);
                case SOUTH:
                    return with(north, FACE_AND_FACE_ACROSS - top);
                default:
                    return with(eastOf(turn), north);
            }
        }
    }

    /**
     * The cells, kept in rows for the largest board and used again for every new one; a cell is
     * numbered as on the largest board, so that its number does not hang on the width.
     */
    private static final class Board {
        private final boolean[] isWalled = new boolean[MOST_CELLS];
        private final int[] printed = new int[MOST_CELLS];
        private int width;
        private int height;

        private static int cellAt(int column, int row) {
            return row * LARGEST_SIDE + column;
        }

        private static int columnOf(int cell) {
            return cell % LARGEST_SIDE;
        }

        private static int rowOf(int cell) {
            return cell / LARGEST_SIDE;
        }

        private void layOut(int w, int h) {
            width = w;
            height = h;
            for (int cell = 0; cell < MOST_CELLS; cell++) {
                isWalled[cell] = false;
                printed[cell] = 0;
            }
        }

        private boolean has(int column, int row) {
            return column >= 0 && column < width && row >= 0 && row < height;
        }

        private boolean isFree(int column, int row) {
            return has(column, row) && !isWalled[cellAt(column, row)];
        }

        private boolean isFreeCell(int cell) {
            return cell >= 0 && isFree(columnOf(cell), rowOf(cell));
        }

        private int printOn(int column, int row) {
            return has(column, row) ? printed[cellAt(column, row)] : 0;
        }

        private void printOnto(int cell, int colour) {
            if (cell >= 0 && cell < MOST_CELLS) {
                printed[cell] = colour;
            }
        }

        private boolean turnOver(int cell) {
            if (cell < 0 || cell >= MOST_CELLS) {
                return false;
            }
            isWalled[cell] = !isWalled[cell];
            return isWalled[cell];
        }

        private int nextCell(int cell, int direction) {
            int column = columnOf(cell);
            int row = rowOf(cell);
            switch (direction) {
                case NORTH:
                    row--;
                    break;
                case EAST:
                    column++;
                    break;
                case SOUTH:
                    row++;
                    break;
                case WEST:
                    column--;
                    break;
                default:
                    return NONE;
            }
            return isFree(column, row) ? cellAt(column, row) : NONE;
        }

        private int countWalls() {
            int count = 0;
            for (int cell = 0; cell < MOST_CELLS; cell++) {
                if (isWalled[cell]) {
                    count++;
                }
            }
            return count;
        }

        private int countPrints(int colour) {
            int count = 0;
            for (int row = 0; row < height; row++) {
                for (int column = 0; column < width; column++) {
                    if (printOn(column, row) == colour) {
                        count++;
                    }
                }
            }
            return count;
        }
    }

    /**
     * Looks which ways to lie (a cell and a turn) the fewest rolls join, from the nearest to the
     * farthest. Its rows are made once and used again, as a run of calls has room for few objects.
     */
    private static final class Search {
        private final int[] fewest = new int[MOST_CELLS * Turn.TURNS];
        private final int[] queue = new int[MOST_CELLS * Turn.TURNS];
        private int found;

        private void forget() {
            Arrays.fill(fewest, NONE);
            found = 0;
        }

        private void reach(int cell, int turn, int rolls) {
            int way = cell * Turn.TURNS + turn;
            if (way < 0 || way >= fewest.length || found >= queue.length || fewest[way] != NONE) {
                return;
            }
            fewest[way] = rolls;
            queue[found] = way;
            found++;
        }

        private void spread(Board board) {
            for (int looked = 0; looked < found && looked < queue.length; looked++) {
                int cell = queue[looked] / Turn.TURNS;
                int turn = queue[looked] % Turn.TURNS;
                int rolls = rollsAt(cell, turn) + 1;
                for (int direction = 0; direction < DIRECTIONS; direction++) {
                    int next = board.nextCell(cell, direction);
                    if (next != NONE) {
                        reach(next, Turn.behindRoll(turn, direction), rolls);
                    }
                }
            }
        }

        private int rollsAt(int cell, int turn) {
            int way = cell * Turn.TURNS + turn;
            return way >= 0 && way < fewest.length ? fewest[way] : NONE;
        }

        private int fewestWithTop(int cell, int top) {
            int least = NONE;
            for (int north = 1; north <= FACES; north++) {
                least = fewerOf(least, rollsAt(cell, Turn.with(top, north)));
            }
            return least;
        }

        private int fewestTo(int cell) {
            int least = NONE;
            for (int top = 1; top <= FACES; top++) {
                least = fewerOf(least, fewestWithTop(cell, top));
            }
            return least;
        }

        private int countTops(int cell) {
            int count = 0;
            for (int top = 1; top <= FACES; top++) {
                if (fewestWithTop(cell, top) != NONE) {
                    count++;
                }
            }
            return count;
        }

        private static int fewerOf(int a, int b) {
            if (a == NONE) {
                return b;
            }
            return b == NONE ? a : Math.min(a, b);
        }
    }
}
