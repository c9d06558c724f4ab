/** Promises 1 to 8: a new object, and what changes the board and the die. */
public final class BoardAndDieTest {
    private BoardAndDieTest() {
    }

    public static void main(String[] args) {
        promise1NewObject();
        promise1ObjectsShareNothing();
        promise2NewBoard();
        promise2WhatStaysAndWhatIsAnew();
        promise3TurnWall();
        promise4SetColour();
        promise5AddPaint();
        promise6Put();
        promise7Roll();
        promise7Printing();
        promise8RollOn();
        promise8PrintsOnEveryCell();
        Due.end();
    }

    private static void promise1NewObject() {
        PaintedDie x = new PaintedDie();
        Due.is("width()", x.width(), 5);
        Due.is("height()", x.height(), 5);
        Due.is("walls()", x.walls(), 0);
        Due.is("rolls()", x.rolls(), 0);
        Due.is("prints()", x.prints(), 0);
        lies(x, 0, 0, "126354");
        for (int face = 1; face <= 6; face++) {
            Due.is("colourOf(" + face + ")", x.colourOf(face), face);
            Due.is("paintOf(" + face + ")", x.paintOf(face), 0);
        }
        for (int column = 0; column < 5; column++) {
            for (int row = 0; row < 5; row++) {
                Due.is("isWall", x.isWall(column, row), false);
                Due.is("printAt", x.printAt(column, row), 0);
            }
        }
    }

    private static void promise1ObjectsShareNothing() {
        String first = View.of(new PaintedDie());
        PaintedDie x = changedOne();
        String changed = View.of(x);
        Due.is("a new object beside a changed one", View.of(new PaintedDie()), first);
        Due.is("the changed one", View.of(x), changed);
    }

    private static PaintedDie changedOne() {
        PaintedDie x = new PaintedDie();
        x.addPaint(3, 5);
        x.setColour(3, 8);
        x.turnWall(2, 2);
        x.roll(1);
        return x;
    }

    private static void promise2NewBoard() {
        for (int w = 2; w <= 7; w++) {
            for (int h = 2; h <= 7; h++) {
                PaintedDie x = new PaintedDie();
                Due.is("newBoard(" + w + ", " + h + ")", x.newBoard(w, h), w * h);
                Due.is("width()", x.width(), w);
                Due.is("height()", x.height(), h);
                Due.is("isWall at the last cell", x.isWall(w - 1, h - 1), false);
                int wide = w;
                int high = h;
                Due.isThrown("isWall east of it", IndexOutOfBoundsException.class, () -> x.isWall(wide, 0));
                Due.isThrown("isWall south of it", IndexOutOfBoundsException.class, () -> x.isWall(0, high));
            }
        }
    }

    private static void promise2WhatStaysAndWhatIsAnew() {
        PaintedDie x = changedOne();
        x.addPaint(4, 20);
        x.rollOn(1, 50);
        Due.is("newBoard of the same size", x.newBoard(5, 5), 25);
        Due.is("walls()", x.walls(), 0);
        Due.is("cellsWith(0)", x.cellsWith(0), 25);
        Due.is("rolls()", x.rolls(), 0);
        Due.is("prints()", x.prints(), 0);
        Due.is("colourOf(3)", x.colourOf(3), 8);
        Due.is("paintOf(3)", x.paintOf(3), 4);
        Due.is("paintOf(4)", x.paintOf(4), 19);
        lies(x, 0, 0, "126354");
        x.turnWall(4, 4);
        x.newBoard(2, 2);
        Due.is("walls() on a smaller board", x.walls(), 0);
        x.turnWall(1, 1);
        x.newBoard(7, 7);
        Due.is("walls() on a larger board", x.walls(), 0);
        Due.is("cellsWith(0) on a larger board", x.cellsWith(0), 49);
    }

    private static void promise3TurnWall() {
        PaintedDie x = new PaintedDie();
        x.addPaint(3, 1);
        x.roll(1);
        Due.isThrown("turnWall(1, 0) under the die", IllegalStateException.class, () -> x.turnWall(1, 0));
        Due.is("turnWall(0, 0) where it was", x.turnWall(0, 0), true);
        x.roll(1);
        Due.is("turnWall(1, 0)", x.turnWall(1, 0), true);
        Due.is("isWall(1, 0)", x.isWall(1, 0), true);
        Due.is("isWall(0, 1)", x.isWall(0, 1), false);
        Due.is("walls()", x.walls(), 2);
        Due.is("printAt(1, 0), a wall", x.printAt(1, 0), 3);
        Due.is("cellsWith(3)", x.cellsWith(3), 1);
        Due.is("turnWall(1, 0) again", x.turnWall(1, 0), false);
        Due.is("printAt(1, 0), no wall any more", x.printAt(1, 0), 3);
        Due.is("walls()", x.walls(), 1);
    }

    private static void promise4SetColour() {
        PaintedDie x = new PaintedDie();
        x.addPaint(3, 2);
        x.roll(1);
        for (int face = 1; face <= 6; face++) {
            Due.is("setColour(" + face + ", 9)", x.setColour(face, 9), face);
            Due.is("setColour(" + face + ", 1)", x.setColour(face, 1), 9);
            Due.is("colourOf(" + face + ")", x.colourOf(face), 1);
        }
        Due.is("printAt(1, 0), printed before", x.printAt(1, 0), 3);
        Due.is("setColour(3, 1), the same", x.setColour(3, 1), 1);
        x.roll(3);
        x.roll(1);
        Due.is("printAt(1, 0), printed anew", x.printAt(1, 0), 1);
    }

    private static void promise5AddPaint() {
        PaintedDie x = new PaintedDie();
        for (int face = 1; face <= 6; face++) {
            Due.is("addPaint(face, 1)", x.addPaint(face, 1), 1);
            Due.is("addPaint(face, 18)", x.addPaint(face, 18), 19);
            Due.is("addPaint(face, 1)", x.addPaint(face, 1), 20);
            Due.is("addPaint(face, 1), full", x.addPaint(face, 1), 20);
            Due.is("addPaint(face, 20), full", x.addPaint(face, 20), 20);
            Due.is("paintOf(face)", x.paintOf(face), 20);
            Due.is("paintOf(the next)", x.paintOf(face % 6 + 1), face == 6 ? 20 : 0);
        }
        Due.is("addPaint(2, 20) at once", new PaintedDie().addPaint(2, 20), 20);
        PaintedDie y = new PaintedDie();
        y.addPaint(2, 13);
        Due.is("addPaint(2, 8) behind 13", y.addPaint(2, 8), 20);
    }

    private static void promise6Put() {
        PaintedDie x = new PaintedDie();
        x.newBoard(6, 3);
        x.addPaint(3, 20);
        x.addPaint(6, 20);
        x.roll(1);
        Due.is("put(5, 2)", x.put(5, 2), 6);
        lies(x, 5, 2, "126354");
        Due.is("printAt(5, 2)", x.printAt(5, 2), 0);
        Due.is("paintOf(6)", x.paintOf(6), 20);
        Due.is("prints()", x.prints(), 1);
        Due.is("rolls()", x.rolls(), 1);
        x.roll(3);
        Due.is("put(4, 2) where it lies", x.put(4, 2), 0);
        lies(x, 4, 2, "126354");
        Due.is("put(1, 1)", x.put(1, 1), 4);
        Due.is("put(0, 2)", x.put(0, 2), 2);
        Due.is("put(3, 0)", x.put(3, 0), 5);
        x.turnWall(5, 2);
        Due.isThrown("put(5, 2) on a wall", IllegalStateException.class, () -> x.put(5, 2));
        x.turnWall(5, 2);
        Due.is("put(5, 2), no wall any more", x.put(5, 2), 4);
    }

    private static void promise7Roll() {
        rolledOnce(0, 2, 2, 1, "512364");
        rolledOnce(1, 3, 3, 2, "423156");
        rolledOnce(2, 5, 2, 3, "265314");
        rolledOnce(3, 4, 1, 2, "324651");
        PaintedDie x = new PaintedDie();
        Due.isThrown("roll(0) at the north edge", IllegalStateException.class, () -> x.roll(0));
        Due.isThrown("roll(3) at the west edge", IllegalStateException.class, () -> x.roll(3));
        x.put(4, 4);
        Due.isThrown("roll(1) at the east edge", IllegalStateException.class, () -> x.roll(1));
        Due.isThrown("roll(2) at the south edge", IllegalStateException.class, () -> x.roll(2));
        x.turnWall(4, 3);
        Due.isThrown("roll(0) onto a wall", IllegalStateException.class, () -> x.roll(0));
        Due.is("rolls()", x.rolls(), 0);
    }

    private static void rolledOnce(int direction, int bottom, int column, int row, String faces) {
        PaintedDie x = new PaintedDie();
        x.put(2, 2);
        Due.is("roll(" + direction + ")", x.roll(direction), bottom);
        lies(x, column, row, faces);
        Due.is("rolls()", x.rolls(), 1);
        Due.is("rolled back", x.roll((direction + 2) % 4), 6);
        lies(x, 2, 2, "126354");
        Due.is("rolls()", x.rolls(), 2);
    }

    private static void promise7Printing() {
        PaintedDie x = new PaintedDie();
        x.addPaint(3, 2);
        x.addPaint(6, 1);
        x.setColour(6, 9);
        x.roll(1);
        Due.is("printAt(1, 0)", x.printAt(1, 0), 3);
        Due.is("printAt(0, 0), never printed", x.printAt(0, 0), 0);
        Due.is("paintOf(3)", x.paintOf(3), 1);
        x.roll(3);
        Due.is("printAt(0, 0)", x.printAt(0, 0), 9);
        Due.is("paintOf(6), the last is gone", x.paintOf(6), 0);
        x.setColour(3, 7);
        x.roll(1);
        Due.is("printAt(1, 0), in the place of another", x.printAt(1, 0), 7);
        Due.is("prints()", x.prints(), 3);
        x.setColour(6, 2);
        x.roll(3);
        Due.is("printAt(0, 0), no paint left", x.printAt(0, 0), 9);
        x.roll(1);
        Due.is("prints()", x.prints(), 3);
        Due.is("rolls()", x.rolls(), 5);
        Due.is("paintOf(3)", x.paintOf(3), 0);
        Due.is("printAt(1, 0), no paint left", x.printAt(1, 0), 7);
    }

    private static void promise8RollOn() {
        PaintedDie x = new PaintedDie();
        x.newBoard(7, 4);
        Due.is("rollOn(0, 1), none can be made", x.rollOn(0, 1), 0);
        Due.is("rollOn(3, 50), none can be made", x.rollOn(3, 50), 0);
        Due.is("rolls()", x.rolls(), 0);
        Due.is("rollOn(1, 50), up to the edge", x.rollOn(1, 50), 6);
        lies(x, 6, 0, "621453");
        Due.is("rollOn(2, 2), so many", x.rollOn(2, 2), 2);
        Due.is("row()", x.row(), 2);
        Due.is("rollOn(2, 1)", x.rollOn(2, 1), 1);
        x.turnWall(2, 3);
        Due.is("rollOn(3, 6), up to a wall", x.rollOn(3, 6), 3);
        Due.is("column()", x.column(), 3);
        Due.is("rollOn(0, 3), just to the edge", x.rollOn(0, 3), 3);
        Due.is("rolls()", x.rolls(), 15);
    }

    private static void promise8PrintsOnEveryCell() {
        PaintedDie x = new PaintedDie();
        x.addPaint(3, 5);
        x.addPaint(4, 5);
        Due.is("rollOn(1, 4)", x.rollOn(1, 4), 4);
        int[] prints = {0, 3, 0, 4, 0};
        for (int column = 0; column < 5; column++) {
            Due.is("printAt(" + column + ", 0)", x.printAt(column, 0), prints[column]);
        }
        Due.is("paintOf(3)", x.paintOf(3), 4);
        Due.is("paintOf(4)", x.paintOf(4), 4);
        Due.is("prints()", x.prints(), 2);
    }

    /** Faces: top, north, bottom, east, south, west. */
    private static void lies(PaintedDie x, int column, int row, String faces) {
        Due.is("column()", x.column(), column);
        Due.is("row()", x.row(), row);
        String got = "" + x.top() + x.faceTo(0) + x.bottom() + x.faceTo(1) + x.faceTo(2) + x.faceTo(3);
        Due.is("top, north, bottom, east, south, west", got, faces);
        Due.is("isAsAtFirst()", x.isAsAtFirst(), faces.equals("126354"));
    }
}
