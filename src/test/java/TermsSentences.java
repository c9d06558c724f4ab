import java.util.HashSet;
import java.util.Set;

/** What the document says ahead of promise 1: calls, board, die, a roll, exceptions. */
final class TermsSentences {
    private TermsSentences() {
    }

    static void run() {
        says("An object is used for at most 512 calls after it has been made", TermsSentences::lastOf512Calls);
        says("It is w cells wide and h cells high, 2 to 7 each", TermsSentences::fromEdgeToEdge);
        says("(5 and 5, at first)", TermsSentences::sizeAtFirst);
        says("at columns from 0, from the west to the east", TermsSentences::columns);
        says("rows from 0, from the north to the south", TermsSentences::rows);
        says("A cell is a wall, or not (not, at first)", TermsSentences::noWallAtFirst);
        says("and has a print: a colour, 1 to 9,", TermsSentences::everyColourIsPrinted);
        says("or none, which is the number 0 (at first)", TermsSentences::noPrintAtFirst);
        says("faces across from each other are 7 together", TermsSentences::facesAcross);
        says("Each has a colour, 1 to 9 (the face as a number, at first)", TermsSentences::coloursOfFaces);
        says("and paint, 0 to 20 (0, at first)", TermsSentences::paintOfFaces);
        says("It lies on a cell that is no wall (column 0, row 0, at first)", TermsSentences::placeAtFirst);
        says("at first 1 on top, 2 to the north, 3 to the east (so 6 at the bottom, 5 to the south, 4 to the west)",
                TermsSentences::turnAtFirst);
        says("Directions: 0 north, 1 east, 2 south, 3 west.", TermsSentences::directions);
        says("the die tips over its lower edge on this side onto the next cell", TermsSentences::ontoTheNextCell);
        says("the face that was on this side is at the bottom then, that on top on this side, that at the bottom"
                + " across from it, that across from it on top; the two others stay where they are.",
                TermsSentences::facesBehindARoll);
        says("It can be made, if the next cell is on the board", TermsSentences::notOverTheEdge);
        says("and no wall. Behind it", TermsSentences::notOntoAWall);
        says("if the face at the bottom has paint, the cell has its colour as a print", TermsSentences::printsWithPaint);
        says("(in the place of another one)", TermsSentences::printsInThePlaceOfAnother);
        says("and this face has 1 paint less", TermsSentences::onePaintLess);
        says("A method that throws an exception changes nothing.", TermsSentences::refusedCallsChangeNothing);
        says("If several exceptions apply, the one that is named first is thrown.", TermsSentences::namedFirst);
    }

    private static void says(String words, Runnable test) {
        Sentence.holds(Sentence.TERMS, words, test);
    }

    private static void lastOf512Calls() {
        PaintedDie x = State.board(7, 7);
        for (int call = 2; call < 512; call++) {
            Due.is("call " + call + ", rollOn", x.rollOn(call % 2 == 0 ? 1 : 3, 50), 6);
        }
        Due.is("call 512, rolls()", x.rolls(), 3060);
        PaintedDie y = new PaintedDie();
        for (int call = 1; call < 512; call++) {
            Due.is("call " + call + ", waysToLie()", y.waysToLie(), 300);
        }
        Due.is("call 512, cellsWithinReach()", y.cellsWithinReach(), 25);
        PaintedDie z = new PaintedDie();
        for (int call = 1; call < 512; call++) {
            Due.isThrown("call " + call + ", roll(0)", IllegalStateException.class, () -> z.roll(0));
        }
        Due.is("call 512, roll(1)", z.roll(1), 3);
    }

    private static void fromEdgeToEdge() {
        for (int w = 2; w <= 7; w++) {
            for (int h = 2; h <= 7; h++) {
                PaintedDie x = State.board(w, h);
                Due.is(w + " wide, rollOn to the east", x.rollOn(1, 50), w - 1);
                Due.is(h + " high, rollOn to the south", x.rollOn(2, 50), h - 1);
                Due.is(w + " wide, rollOn to the west", x.rollOn(3, 50), w - 1);
                Due.is(h + " high, rollOn to the north", x.rollOn(0, 50), h - 1);
            }
        }
    }

    private static void sizeAtFirst() {
        PaintedDie x = new PaintedDie();
        Due.is("width()", x.width(), 5);
        Due.is("height()", x.height(), 5);
        Due.is("isWall(4, 4)", x.isWall(4, 4), false);
        Due.isThrown("isWall(5, 4)", IndexOutOfBoundsException.class, () -> x.isWall(5, 4));
        Due.isThrown("isWall(4, 5)", IndexOutOfBoundsException.class, () -> x.isWall(4, 5));
    }

    private static void columns() {
        PaintedDie x = State.board(7, 2);
        for (int column = 0; column < 7; column++) {
            Due.is("column() behind " + column + " rolls to the east", x.column(), column);
            Due.is("canRoll(3) at column " + column, x.canRoll(3), column > 0);
            Due.is("canRoll(1) at column " + column, x.canRoll(1), column < 6);
            x.rollOn(1, 1);
        }
    }

    private static void rows() {
        PaintedDie x = State.board(2, 7);
        for (int row = 0; row < 7; row++) {
            Due.is("row() behind " + row + " rolls to the south", x.row(), row);
            Due.is("canRoll(0) at row " + row, x.canRoll(0), row > 0);
            Due.is("canRoll(2) at row " + row, x.canRoll(2), row < 6);
            x.rollOn(2, 1);
        }
    }

    private static void noWallAtFirst() {
        PaintedDie x = new PaintedDie();
        for (int column = 0; column < 5; column++) {
            for (int row = 0; row < 5; row++) {
                Due.is("isWall(" + column + ", " + row + ")", x.isWall(column, row), false);
            }
        }
    }

    private static void everyColourIsPrinted() {
        for (int colour = 1; colour <= 9; colour++) {
            PaintedDie x = new PaintedDie();
            x.setColour(3, colour);
            x.addPaint(3, 1);
            x.roll(1);
            Due.is("printAt(1, 0)", x.printAt(1, 0), colour);
            Due.is("cellsWith(" + colour + ")", x.cellsWith(colour), 1);
        }
    }

    private static void noPrintAtFirst() {
        PaintedDie x = new PaintedDie();
        for (int column = 0; column < 5; column++) {
            for (int row = 0; row < 5; row++) {
                Due.is("printAt(" + column + ", " + row + ")", x.printAt(column, row), 0);
            }
        }
    }

    private static void facesAcross() {
        Set<String> seen = new HashSet<>();
        for (int number = 0; number < Turns.COUNT; number++) {
            PaintedDie x = Turns.made(number);
            Due.is("top and bottom", x.top() + x.bottom(), 7);
            Due.is("north and south", x.faceTo(0) + x.faceTo(2), 7);
            Due.is("east and west", x.faceTo(1) + x.faceTo(3), 7);
            seen.add(Turns.facesOf(x));
        }
        Due.is("ways to be turned", seen.size(), 24);
    }

    private static void coloursOfFaces() {
        PaintedDie x = new PaintedDie();
        for (int face = 1; face <= 6; face++) {
            Due.is("colourOf(" + face + ") at first", x.colourOf(face), face);
            for (int colour = 1; colour <= 9; colour++) {
                x.setColour(face, colour);
                Due.is("colourOf(" + face + ")", x.colourOf(face), colour);
            }
        }
    }

    private static void paintOfFaces() {
        PaintedDie x = new PaintedDie();
        for (int face = 1; face <= 6; face++) {
            Due.is("paintOf(" + face + ") at first", x.paintOf(face), 0);
            for (int paint = 1; paint <= 25; paint++) {
                x.addPaint(face, 1);
                Due.is("paintOf(" + face + ")", x.paintOf(face), paint < 20 ? paint : 20);
            }
        }
    }

    private static void placeAtFirst() {
        PaintedDie x = new PaintedDie();
        Due.is("column()", x.column(), 0);
        Due.is("row()", x.row(), 0);
        Due.is("isWall(0, 0)", x.isWall(0, 0), false);
        Due.is("fewestRolls(0, 0)", x.fewestRolls(0, 0), 0);
    }

    private static void turnAtFirst() {
        Due.is("north, east, south, west, top, bottom", Turns.facesOf(new PaintedDie()), "235416");
    }

    private static void directions() {
        int[] columns = {3, 4, 3, 2};
        int[] rows = {2, 3, 4, 3};
        for (int direction = 0; direction <= 3; direction++) {
            PaintedDie x = State.board(7, 7);
            x.put(3, 3);
            x.roll(direction);
            Due.is("column() behind roll(" + direction + ")", x.column(), columns[direction]);
            Due.is("row() behind roll(" + direction + ")", x.row(), rows[direction]);
        }
    }

    /** From every cell of a board that is not as wide as it is high, also onto its last cells. */
    private static void ontoTheNextCell() {
        for (int column = 0; column < 4; column++) {
            for (int row = 0; row < 6; row++) {
                rolledFrom(column, row, 0, column, row - 1);
                rolledFrom(column, row, 1, column + 1, row);
                rolledFrom(column, row, 2, column, row + 1);
                rolledFrom(column, row, 3, column - 1, row);
            }
        }
    }

    private static void rolledFrom(int column, int row, int direction, int columnDue, int rowDue) {
        PaintedDie x = State.board(4, 6);
        x.put(column, row);
        boolean isMade = columnDue >= 0 && columnDue < 4 && rowDue >= 0 && rowDue < 6;
        Object got = new Ask("roll", direction).of(x);
        String call = "roll(" + direction + ") from " + column + ", " + row;
        Due.is(call + ", whether it is made", !got.equals(Refused.STATE), isMade);
        Due.is(call + ", column()", x.column(), isMade ? columnDue : column);
        Due.is(call + ", row()", x.row(), isMade ? rowDue : row);
    }

    private static void facesBehindARoll() {
        for (int number = 0; number < Turns.COUNT; number++) {
            for (int direction = 0; direction <= 3; direction++) {
                PaintedDie before = Turns.made(number);
                PaintedDie x = Turns.made(number);
                x.roll(direction);
                String call = Turns.facesOf(before) + ", roll(" + direction + "), ";
                int across = (direction + 2) % 4;
                int beside = (direction + 1) % 4;
                int otherBeside = (direction + 3) % 4;
                Due.is(call + "bottom()", x.bottom(), before.faceTo(direction));
                Due.is(call + "the face on this side", x.faceTo(direction), before.top());
                Due.is(call + "the face across from it", x.faceTo(across), before.bottom());
                Due.is(call + "top()", x.top(), before.faceTo(across));
                Due.is(call + "faceTo(" + beside + ")", x.faceTo(beside), before.faceTo(beside));
                Due.is(call + "faceTo(" + otherBeside + ")", x.faceTo(otherBeside), before.faceTo(otherBeside));
            }
        }
    }

    private static void notOverTheEdge() {
        for (int size = 2; size <= 7; size++) {
            PaintedDie x = State.board(size, size);
            onlyTo(x, "12");
            x.put(size - 1, 0);
            onlyTo(x, "23");
            x.put(size - 1, size - 1);
            onlyTo(x, "03");
            x.put(0, size - 1);
            onlyTo(x, "01");
        }
    }

    private static void notOntoAWall() {
        int[][] beside = {{2, 1}, {3, 2}, {2, 3}, {1, 2}};
        String[] others = {"123", "023", "013", "012"};
        for (int direction = 0; direction <= 3; direction++) {
            PaintedDie x = new PaintedDie();
            x.put(2, 2);
            x.turnWall(beside[direction][0], beside[direction][1]);
            onlyTo(x, others[direction]);
            x.turnWall(beside[direction][0], beside[direction][1]);
            onlyTo(x, "0123");
        }
        PaintedDie y = new PaintedDie();
        y.put(2, 2);
        for (int[] corner : new int[][] {{1, 1}, {3, 1}, {1, 3}, {3, 3}}) {
            y.turnWall(corner[0], corner[1]);
        }
        onlyTo(y, "0123");
    }

    /** Rolls in the directions that are named, and back, can be made; others are refused. */
    private static void onlyTo(PaintedDie x, String directions) {
        for (int direction = 0; direction <= 3; direction++) {
            String call = "roll(" + direction + ") at " + x.column() + ", " + x.row();
            boolean isMade = !new Ask("roll", direction).of(x).equals(Refused.STATE);
            Due.is(call + ", whether it is made", isMade, directions.indexOf('0' + direction) >= 0);
            if (isMade) {
                x.roll((direction + 2) % 4);
            }
        }
    }

    /** Without paint nothing is printed, with the least and with the most there is something. */
    private static void printsWithPaint() {
        PaintedDie x = new PaintedDie();
        x.addPaint(4, 20);
        x.roll(1);
        Due.is("printAt(1, 0), face 3 has no paint", x.printAt(1, 0), 0);
        Due.is("prints()", x.prints(), 0);
        for (int paint : new int[] {1, 20}) {
            PaintedDie y = new PaintedDie();
            y.addPaint(3, paint);
            y.roll(1);
            Due.is("printAt(1, 0), face 3 has " + paint, y.printAt(1, 0), 3);
            Due.is("printAt(0, 0), from where it rolled", y.printAt(0, 0), 0);
            Due.is("prints()", y.prints(), 1);
        }
    }

    private static void printsInThePlaceOfAnother() {
        PaintedDie x = new PaintedDie();
        x.addPaint(3, 2);
        x.roll(1);
        x.setColour(3, 9);
        x.roll(3);
        Due.is("printAt(1, 0)", x.printAt(1, 0), 3);
        x.roll(1);
        Due.is("printAt(1, 0), printed anew", x.printAt(1, 0), 9);
        Due.is("cellsWith(3)", x.cellsWith(3), 0);
        x.setColour(3, 1);
        x.roll(3);
        x.roll(1);
        Due.is("printAt(1, 0), the paint is used up", x.printAt(1, 0), 9);
    }

    private static void onePaintLess() {
        PaintedDie x = new PaintedDie();
        for (int face = 1; face <= 6; face++) {
            x.addPaint(face, 20);
        }
        for (int made = 1; made <= 25; made++) {
            x.roll(1);
            Due.is("paintOf(3), that was at the bottom " + made + " times", x.paintOf(3), made < 20 ? 20 - made : 0);
            x.roll(3);
            Due.is("paintOf(6), that was at the bottom " + made + " times", x.paintOf(6), made < 20 ? 20 - made : 0);
        }
        for (int face : new int[] {1, 2, 4, 5}) {
            Due.is("paintOf(" + face + "), that never was", x.paintOf(face), 20);
        }
        Due.is("prints()", x.prints(), 40);
        Due.is("rolls()", x.rolls(), 50);
    }

    /** One object refuses calls of every kind, one behind the other. */
    private static void refusedCallsChangeNothing() {
        Ask[] asks = {new Ask("newBoard", 1, 7), new Ask("turnWall", 4, 0), new Ask("turnWall", 2, 1),
            new Ask("setColour", 7, 1), new Ask("setColour", 1, 10), new Ask("addPaint", 0, 1),
            new Ask("addPaint", 2, 21), new Ask("put", 0, 6), new Ask("put", 3, 1), new Ask("roll", 4),
            new Ask("roll", 0), new Ask("roll", 1), new Ask("rollOn", -1, 1), new Ask("rollOn", 2, 51),
            new Ask("faceTo", 4), new Ask("colourOf", 0), new Ask("paintOf", 7), new Ask("isWall", 4, 0),
            new Ask("printAt", 0, 6), new Ask("canRoll", 4), new Ask("cellsWith", 10), new Ask("fewestRolls", 4, 0),
            new Ask("fewestRollsWithTop", 0, 0, 7), new Ask("firstRoll", 0, 0, 0), new Ask("topsAt", -1, 0),
            new Ask("cellsBehind", 21), new Ask("bestPut", 7)};
        PaintedDie x = State.BESIDE_WALLS.made();
        for (Ask ask : asks) {
            String got = ask.of(x).toString();
            Due.is(ask + ", whether it is refused", got.startsWith("java.lang."), true);
        }
        Due.is("what there is behind all of them", View.of(x), State.BESIDE_WALLS.view());
    }

    private static void namedFirst() {
        for (int no : new int[] {0, 7}) {
            Refused.inEveryState(Refused.OUTSIDE, "setColour", no, 0);
            Refused.inEveryState(Refused.OUTSIDE, "setColour", no, 10);
            Refused.inEveryState(Refused.OUTSIDE, "addPaint", no, 0);
            Refused.inEveryState(Refused.OUTSIDE, "addPaint", no, 21);
        }
        for (int no : new int[] {-1, 4}) {
            Refused.inEveryState(Refused.OUTSIDE, "rollOn", no, 0);
            Refused.inEveryState(Refused.OUTSIDE, "rollOn", no, 51);
            Refused.in(State.SHUT_IN, Refused.OUTSIDE, "roll", no);
        }
        cellsThatAreNone();
    }

    /** Counted on behind the end of its row, a cell that there is not would be that of the die, or a wall. */
    private static void cellsThatAreNone() {
        PaintedDie x = new PaintedDie();
        x.put(0, 1);
        x.turnWall(4, 2);
        Refused.by(x, Refused.OUTSIDE, "turnWall", 5, 0);
        Refused.by(x, Refused.OUTSIDE, "turnWall", -5, 2);
        PaintedDie y = new PaintedDie();
        y.turnWall(0, 1);
        y.turnWall(4, 2);
        Refused.by(y, Refused.OUTSIDE, "put", 5, 0);
        Refused.by(y, Refused.OUTSIDE, "put", -1, 3);
    }
}
