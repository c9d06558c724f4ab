/** Promises 9 to 25: what there is, in a run whose every answer is told by the document. */
public final class WhatThereIsTest {
    private WhatThereIsTest() {
    }

    public static void main(String[] args) {
        promises9And10Place();
        promises11To14Turn();
        promise14AllTurns();
        promises15And16Faces();
        promises17And18Cells();
        promise19CanRoll();
        promises20To22Board();
        promises23And24Counts();
        promise25CellsWith();
        Due.end();
    }

    private static void promises9And10Place() {
        PaintedDie x = new PaintedDie();
        x.newBoard(2, 7);
        x.rollOn(2, 6);
        Due.is("column()", x.column(), 0);
        Due.is("row()", x.row(), 6);
        x.roll(1);
        Due.is("column()", x.column(), 1);
        Due.is("row()", x.row(), 6);
        x.newBoard(7, 2);
        x.put(6, 1);
        Due.is("column()", x.column(), 6);
        Due.is("row()", x.row(), 1);
    }

    private static void promises11To14Turn() {
        PaintedDie x = new PaintedDie();
        x.roll(1);
        x.roll(2);
        Due.is("top()", x.top(), 2);
        Due.is("bottom()", x.bottom(), 5);
        int[] sides = {3, 1, 4, 6};
        for (int direction = 0; direction < 4; direction++) {
            Due.is("faceTo(" + direction + ")", x.faceTo(direction), sides[direction]);
        }
        Due.is("isAsAtFirst()", x.isAsAtFirst(), false);
    }

    /** Round a square three times a die is turned as at first again; on the way it never is. */
    private static void promise14AllTurns() {
        PaintedDie x = new PaintedDie();
        Due.is("isAsAtFirst()", x.isAsAtFirst(), true);
        int[] round = {1, 2, 3, 0};
        for (int roll = 1; roll <= 12; roll++) {
            x.roll(round[(roll - 1) % 4]);
            Due.is("isAsAtFirst() behind " + roll, x.isAsAtFirst(), roll == 12);
        }
        PaintedDie y = new PaintedDie();
        for (int direction : new int[] {1, 2, 3}) {
            y.roll(direction);
        }
        Due.is("top() behind E S W", y.top(), 1);
        Due.is("faceTo(0) behind E S W", y.faceTo(0) == 2, false);
        Due.is("isAsAtFirst(), 1 on top, but 2 not to the north", y.isAsAtFirst(), false);
        PaintedDie z = new PaintedDie();
        z.roll(1);
        Due.is("faceTo(0) behind E", z.faceTo(0), 2);
        Due.is("isAsAtFirst(), 2 to the north, but 1 not on top", z.isAsAtFirst(), false);
    }

    private static void promises15And16Faces() {
        PaintedDie x = new PaintedDie();
        for (int face = 1; face <= 6; face++) {
            x.setColour(face, 10 - face);
            x.addPaint(face, 2 * face);
        }
        for (int face = 1; face <= 6; face++) {
            Due.is("colourOf(" + face + ")", x.colourOf(face), 10 - face);
            Due.is("paintOf(" + face + ")", x.paintOf(face), 2 * face);
        }
        x.roll(1);
        Due.is("colourOf(3)", x.colourOf(3), 7);
        Due.is("paintOf(3), some is used", x.paintOf(3), 5);
        Due.is("paintOf(1), on another side", x.paintOf(1), 2);
    }

    private static void promises17And18Cells() {
        PaintedDie x = new PaintedDie();
        x.newBoard(4, 6);
        x.turnWall(3, 2);
        x.turnWall(1, 5);
        x.addPaint(5, 1);
        x.put(2, 3);
        x.roll(2);
        for (int column = 0; column < 4; column++) {
            for (int row = 0; row < 6; row++) {
                boolean wall = column == 3 && row == 2 || column == 1 && row == 5;
                Due.is("isWall(" + column + ", " + row + ")", x.isWall(column, row), wall);
                int print = column == 2 && row == 4 ? 5 : 0;
                Due.is("printAt(" + column + ", " + row + ")", x.printAt(column, row), print);
            }
        }
    }

    private static void promise19CanRoll() {
        PaintedDie x = new PaintedDie();
        x.newBoard(3, 2);
        can(x, false, true, true, false);
        x.put(2, 1);
        can(x, true, false, false, true);
        x.put(1, 0);
        can(x, false, true, true, true);
        x.turnWall(0, 0);
        x.turnWall(1, 1);
        can(x, false, true, false, false);
        x.turnWall(2, 0);
        can(x, false, false, false, false);
        x.turnWall(0, 0);
        can(x, false, false, false, true);
    }

    private static void can(PaintedDie x, boolean... due) {
        for (int direction = 0; direction < 4; direction++) {
            Due.is("canRoll(" + direction + ")", x.canRoll(direction), due[direction]);
        }
    }

    private static void promises20To22Board() {
        PaintedDie x = new PaintedDie();
        x.newBoard(6, 4);
        Due.is("width()", x.width(), 6);
        Due.is("height()", x.height(), 4);
        int due = 0;
        for (int column = 0; column < 6; column++) {
            for (int row = 0; row < 4; row++) {
                if (column + row > 0) {
                    x.turnWall(column, row);
                    due++;
                    Due.is("walls()", x.walls(), due);
                }
            }
        }
        x.turnWall(5, 3);
        Due.is("walls()", x.walls(), 22);
    }

    private static void promises23And24Counts() {
        PaintedDie x = new PaintedDie();
        x.addPaint(6, 20);
        x.roll(1);
        Due.is("rolls()", x.rolls(), 1);
        Due.is("prints()", x.prints(), 0);
        x.roll(3);
        Due.is("rolls()", x.rolls(), 2);
        Due.is("prints()", x.prints(), 1);
        x.rollOn(1, 2);
        x.put(0, 0);
        Due.is("rolls(), put is none", x.rolls(), 4);
        x.roll(1);
        x.roll(3);
        Due.is("prints(), on the same cell again", x.prints(), 2);
        Due.isThrown("roll(0)", IllegalStateException.class, () -> x.roll(0));
        Due.is("rolls()", x.rolls(), 6);
        x.newBoard(5, 5);
        Due.is("rolls() on a new board", x.rolls(), 0);
        Due.is("prints() on a new board", x.prints(), 0);
    }

    private static void promise25CellsWith() {
        PaintedDie x = new PaintedDie();
        x.newBoard(7, 2);
        for (int face = 1; face <= 6; face++) {
            x.addPaint(face, 20);
        }
        x.setColour(4, 9);
        x.setColour(1, 9);
        x.rollOn(1, 6);
        int[] due = {8, 0, 0, 2, 0, 0, 1, 0, 0, 3};
        for (int colour = 0; colour <= 9; colour++) {
            Due.is("cellsWith(" + colour + ")", x.cellsWith(colour), due[colour]);
        }
        x.turnWall(1, 0);
        x.turnWall(6, 1);
        Due.is("cellsWith(3), one of them a wall", x.cellsWith(3), 2);
        Due.is("cellsWith(0), one of them a wall", x.cellsWith(0), 8);
    }
}
