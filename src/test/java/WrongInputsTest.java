import java.util.List;

/** Every call that throws: just the exception that the document names, and nothing changed behind it. */
public final class WrongInputsTest {
    private static final String OUTSIDE = "java.lang.IndexOutOfBoundsException";
    private static final String ARGUMENT = "java.lang.IllegalArgumentException";
    private static final String STATE = "java.lang.IllegalStateException";

    private static final int LEAST = Integer.MIN_VALUE;
    private static final int MOST = Integer.MAX_VALUE;
    private static final int[] NO_SIDES = {LEAST, -2, 0, 1, 8, 49, MOST};
    private static final int[] NO_FACES = {LEAST, -1, 0, 7, MOST};
    private static final int[] NO_DIRECTIONS = {LEAST, -1, 4, MOST};
    private static final int[] NO_COLUMNS = {LEAST, -1, 4, 5, 7, MOST};
    private static final int[] NO_ROWS = {LEAST, -1, 6, 7, MOST};

    private WrongInputsTest() {
    }

    public static void main(String[] args) {
        boards();
        cells();
        coloursAndPaint();
        rolling();
        questions();
        severalAtOnce();
        Due.end();
    }

    /** A die on a board 4 wide and 6 high, at column 2, row 1, with walls beside it. */
    private static PaintedDie made() {
        PaintedDie x = new PaintedDie();
        x.newBoard(4, 6);
        x.addPaint(2, 7);
        x.addPaint(3, 3);
        x.addPaint(5, 20);
        x.setColour(3, 9);
        x.turnWall(3, 1);
        x.turnWall(2, 0);
        x.roll(2);
        x.rollOn(1, 2);
        return x;
    }

    private static final String MADE = View.of(made());

    private static void thrown(String due, Ask ask) {
        PaintedDie x = made();
        Due.is(ask.toString(), ask.of(x), due);
        Due.is("what there is behind " + ask, View.of(x), MADE);
    }

    private static void boards() {
        for (int no : NO_SIDES) {
            thrown(ARGUMENT, new Ask("newBoard", no, 3));
            thrown(ARGUMENT, new Ask("newBoard", 7, no));
            thrown(ARGUMENT, new Ask("newBoard", no, no));
        }
    }

    private static void cells() {
        for (String name : List.of("turnWall", "put", "isWall", "printAt", "fewestRolls", "topsAt")) {
            for (int no : NO_COLUMNS) {
                thrown(OUTSIDE, new Ask(name, no, 0));
                thrown(OUTSIDE, new Ask(name, no, 5));
            }
            for (int no : NO_ROWS) {
                thrown(OUTSIDE, new Ask(name, 0, no));
                thrown(OUTSIDE, new Ask(name, 3, no));
            }
            thrown(OUTSIDE, new Ask(name, -1, -1));
        }
        for (String name : List.of("fewestRollsWithTop", "firstRoll")) {
            for (int no : NO_COLUMNS) {
                thrown(OUTSIDE, new Ask(name, no, 5, 1));
            }
            for (int no : NO_ROWS) {
                thrown(OUTSIDE, new Ask(name, 3, no, 6));
            }
            for (int no : NO_FACES) {
                thrown(OUTSIDE, new Ask(name, 0, 0, no));
                thrown(OUTSIDE, new Ask(name, 2, 1, no));
                thrown(OUTSIDE, new Ask(name, 3, 1, no));
            }
        }
        thrown(STATE, new Ask("turnWall", 2, 1));
        thrown(STATE, new Ask("put", 3, 1));
        thrown(STATE, new Ask("put", 2, 0));
    }

    private static void coloursAndPaint() {
        for (int no : NO_FACES) {
            thrown(OUTSIDE, new Ask("setColour", no, 1));
            thrown(OUTSIDE, new Ask("addPaint", no, 1));
            thrown(OUTSIDE, new Ask("colourOf", no));
            thrown(OUTSIDE, new Ask("paintOf", no));
            thrown(OUTSIDE, new Ask("bestPut", no));
        }
        for (int no : new int[] {LEAST, -1, 0, 10, MOST}) {
            thrown(ARGUMENT, new Ask("setColour", 1, no));
            thrown(ARGUMENT, new Ask("setColour", 6, no));
        }
        for (int no : new int[] {LEAST, -1, 0, 21, MOST}) {
            thrown(ARGUMENT, new Ask("addPaint", 1, no));
            thrown(ARGUMENT, new Ask("addPaint", 5, no));
        }
        for (int no : new int[] {LEAST, -1, 10, MOST}) {
            thrown(OUTSIDE, new Ask("cellsWith", no));
        }
    }

    private static void rolling() {
        for (int no : NO_DIRECTIONS) {
            thrown(OUTSIDE, new Ask("roll", no));
            thrown(OUTSIDE, new Ask("rollOn", no, 1));
            thrown(OUTSIDE, new Ask("faceTo", no));
            thrown(OUTSIDE, new Ask("canRoll", no));
        }
        thrown(STATE, new Ask("roll", 0));
        thrown(STATE, new Ask("roll", 1));
        for (int no : new int[] {LEAST, -1, 0, 51, MOST}) {
            thrown(ARGUMENT, new Ask("rollOn", 2, no));
            thrown(ARGUMENT, new Ask("rollOn", 1, no));
        }
        PaintedDie x = made();
        Due.is("rollOn(1, 50) against a wall", new Ask("rollOn", 1, 50).of(x), 0);
        Due.is("what there is behind it", View.of(x), MADE);
    }

    private static void questions() {
        for (int no : new int[] {LEAST, -1, 21, MOST}) {
            thrown(ARGUMENT, new Ask("cellsBehind", no));
        }
    }

    /** The exception that is named first. */
    private static void severalAtOnce() {
        for (int no : NO_FACES) {
            thrown(OUTSIDE, new Ask("setColour", no, 0));
            thrown(OUTSIDE, new Ask("setColour", no, 10));
            thrown(OUTSIDE, new Ask("addPaint", no, 0));
            thrown(OUTSIDE, new Ask("addPaint", no, 21));
        }
        for (int no : NO_DIRECTIONS) {
            thrown(OUTSIDE, new Ask("rollOn", no, 0));
            thrown(OUTSIDE, new Ask("rollOn", no, 51));
        }
    }
}
