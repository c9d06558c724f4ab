/** Promises 26 to 35: what would be, on boards small enough to be followed by hand. */
public final class WhatWouldBeTest {
    private WhatWouldBeTest() {
    }

    public static void main(String[] args) {
        promise26FewestRolls();
        promise27FewestRollsWithTop();
        promise27HereWithAnotherTop();
        promise28FirstRoll();
        promise28FirstOfSeveral();
        promise29TopsAt();
        promises30And31Reach();
        promise32CellsBehind();
        promise33BestPutInARow();
        promise33BestPutInAColumn();
        promise33BestPutPastWalls();
        promise34MeanPaint();
        promise35Digest();
        nothingIsChanged();
        Due.end();
    }

    /** One row of seven cells from the west to the east: its tops are 1, 4, 6, 3, 1, 4, 6. */
    private static PaintedDie row() {
        PaintedDie x = new PaintedDie();
        x.newBoard(7, 2);
        for (int column = 0; column < 7; column++) {
            x.turnWall(column, 1);
        }
        return x;
    }

    /** One column of seven cells from the north to the south: its tops are 1, 2, 6, 5, 1, 2, 6. */
    private static PaintedDie column() {
        PaintedDie x = new PaintedDie();
        x.newBoard(2, 7);
        for (int row = 0; row < 7; row++) {
            x.turnWall(1, row);
        }
        return x;
    }

    private static void promise26FewestRolls() {
        PaintedDie x = new PaintedDie();
        x.newBoard(3, 4);
        x.turnWall(1, 0);
        x.turnWall(1, 1);
        x.turnWall(1, 2);
        int[][] due = {{0, -1, 8}, {1, -1, 7}, {2, -1, 6}, {3, 4, 5}};
        for (int column = 0; column < 3; column++) {
            for (int row = 0; row < 4; row++) {
                Due.is("fewestRolls(" + column + ", " + row + ")", x.fewestRolls(column, row), due[row][column]);
            }
        }
        x.turnWall(1, 3);
        Due.is("fewestRolls(2, 3), cut off", x.fewestRolls(2, 3), -1);
        Due.is("fewestRolls(0, 3)", x.fewestRolls(0, 3), 3);
    }

    private static void promise27FewestRollsWithTop() {
        int[] tops = {1, 4, 6, 3, 1, 4, 6};
        PaintedDie x = row();
        for (int column = 0; column < 7; column++) {
            for (int face = 1; face <= 6; face++) {
                Due.is("fewestRollsWithTop(" + column + ", 0, " + face + ")",
                        x.fewestRollsWithTop(column, 0, face), face == tops[column] ? column : -1);
            }
        }
        int[] topsInColumn = {1, 2, 6, 5, 1, 2, 6};
        PaintedDie y = column();
        for (int row = 0; row < 7; row++) {
            for (int face = 1; face <= 6; face++) {
                Due.is("fewestRollsWithTop(0, " + row + ", " + face + ")",
                        y.fewestRollsWithTop(0, row, face), face == topsInColumn[row] ? row : -1);
            }
        }
        Due.is("on a wall", y.fewestRollsWithTop(1, 0, 1), -1);
    }

    /** Round the square once brings another face on top, twice one more, three times the first. */
    private static void promise27HereWithAnotherTop() {
        PaintedDie x = new PaintedDie();
        x.newBoard(2, 2);
        int[] due = {0, 4, -1, 4, -1, -1};
        for (int face = 1; face <= 6; face++) {
            Due.is("fewestRollsWithTop(0, 0, " + face + ")", x.fewestRollsWithTop(0, 0, face), due[face - 1]);
        }
    }

    private static void promise28FirstRoll() {
        PaintedDie x = new PaintedDie();
        x.put(2, 2);
        Due.is("firstRoll to the north", x.firstRoll(2, 1, 5), 0);
        Due.is("firstRoll to the east", x.firstRoll(3, 2, 4), 1);
        Due.is("firstRoll to the south", x.firstRoll(2, 3, 2), 2);
        Due.is("firstRoll to the west", x.firstRoll(1, 2, 3), 3);
        Due.is("firstRoll(2, 2, 1), none is needed", x.firstRoll(2, 2, 1), -1);
        x.newBoard(2, 2);
        Due.is("firstRoll(0, 0, 6), it never lies so", x.firstRoll(0, 0, 6), -1);
        Due.is("firstRoll(0, 0, 2)", x.firstRoll(0, 0, 2), 2);
        Due.is("firstRoll(0, 0, 4)", x.firstRoll(0, 0, 4), 1);
        x.turnWall(1, 1);
        Due.is("firstRoll(1, 1, 1), a wall", x.firstRoll(1, 1, 1), -1);
    }

    /** In the middle of a free board more than one way of four rolls brings these faces on top. */
    private static void promise28FirstOfSeveral() {
        for (int face = 2; face <= 5; face++) {
            PaintedDie x = new PaintedDie();
            x.put(2, 2);
            int fewest = x.fewestRollsWithTop(2, 2, face);
            Due.is("fewestRollsWithTop(2, 2, " + face + ")", fewest, 4);
            int first = -1;
            for (int direction = 3; direction >= 0; direction--) {
                PaintedDie y = new PaintedDie();
                y.put(2, 2);
                y.roll(direction);
                if (y.fewestRollsWithTop(2, 2, face) == fewest - 1) {
                    first = direction;
                }
            }
            Due.is("firstRoll(2, 2, " + face + ")", x.firstRoll(2, 2, face), first);
        }
    }

    private static void promise29TopsAt() {
        PaintedDie x = row();
        for (int column = 0; column < 7; column++) {
            Due.is("topsAt(" + column + ", 0)", x.topsAt(column, 0), 1);
            Due.is("topsAt(" + column + ", 1), a wall", x.topsAt(column, 1), 0);
        }
        x.turnWall(3, 0);
        Due.is("topsAt(4, 0), cut off", x.topsAt(4, 0), 0);
        PaintedDie y = new PaintedDie();
        Due.is("topsAt(4, 4)", y.topsAt(4, 4), 6);
        y.newBoard(2, 2);
        for (int column = 0; column < 2; column++) {
            for (int row = 0; row < 2; row++) {
                Due.is("topsAt on a square", y.topsAt(column, row), 3);
            }
        }
    }

    private static void promises30And31Reach() {
        PaintedDie x = new PaintedDie();
        Due.is("cellsWithinReach()", x.cellsWithinReach(), 25);
        Due.is("waysToLie()", x.waysToLie(), 300);
        x.newBoard(7, 7);
        Due.is("cellsWithinReach()", x.cellsWithinReach(), 49);
        Due.is("waysToLie()", x.waysToLie(), 588);
        x.newBoard(2, 2);
        Due.is("cellsWithinReach()", x.cellsWithinReach(), 4);
        Due.is("waysToLie()", x.waysToLie(), 12);
        x.turnWall(1, 1);
        Due.is("cellsWithinReach()", x.cellsWithinReach(), 3);
        Due.is("waysToLie()", x.waysToLie(), 3);
        x.turnWall(0, 1);
        x.turnWall(1, 0);
        Due.is("cellsWithinReach(), shut in", x.cellsWithinReach(), 1);
        Due.is("waysToLie(), shut in", x.waysToLie(), 1);
        PaintedDie y = row();
        y.turnWall(3, 0);
        Due.is("cellsWithinReach(), cut off", y.cellsWithinReach(), 3);
        y.put(4, 0);
        Due.is("cellsWithinReach() on the other side", y.cellsWithinReach(), 3);
        y.turnWall(3, 0);
        Due.is("waysToLie()", y.waysToLie(), 7);
    }

    private static void promise32CellsBehind() {
        PaintedDie x = row();
        int[] due = {1, 1, 2, 2, 3, 3, 4};
        for (int rolls = 0; rolls <= 20; rolls++) {
            int dueNow = rolls <= 6 ? due[rolls] : rolls % 2 == 0 ? 4 : 3;
            Due.is("cellsBehind(" + rolls + ")", x.cellsBehind(rolls), dueNow);
        }
        x.turnWall(1, 0);
        for (int rolls = 0; rolls <= 20; rolls++) {
            Due.is("cellsBehind(" + rolls + "), shut in", x.cellsBehind(rolls), rolls == 0 ? 1 : 0);
        }
        PaintedDie y = new PaintedDie();
        y.put(2, 2);
        int[] spread = {1, 4, 9, 12, 13, 12, 13};
        for (int rolls = 0; rolls <= 6; rolls++) {
            Due.is("cellsBehind(" + rolls + ") from the middle", y.cellsBehind(rolls), spread[rolls]);
        }
    }

    private static void promise33BestPutInARow() {
        int[] atTheEnd = {0, -1, 1, 3, -1, 2};
        int[] inTheMiddle = {3, -1, 4, 2, -1, 1};
        PaintedDie x = row();
        best(x, atTheEnd);
        x.rollOn(1, 3);
        best(x, inTheMiddle);
        x.turnWall(1, 0);
        best(x, new int[] {3, -1, 4, 2, -1, 5});
        x.turnWall(4, 0);
        best(x, new int[] {3, -1, -1, 2, -1, -1});
    }

    private static void promise33BestPutInAColumn() {
        PaintedDie x = column();
        best(x, new int[] {0, 6, -1, -1, 2, 4});
        x.put(0, 3);
        best(x, new int[] {6, 4, -1, -1, 8, 2});
    }

    private static void promise33BestPutPastWalls() {
        PaintedDie x = new PaintedDie();
        x.turnWall(1, 0);
        x.turnWall(0, 1);
        best(x, new int[] {0, -1, -1, -1, -1, -1});
        x.newBoard(2, 2);
        best(x, new int[] {0, 0, 1, 0, 2, -1});
    }

    private static void best(PaintedDie x, int[] due) {
        for (int face = 1; face <= 6; face++) {
            Due.is("bestPut(" + face + ")", x.bestPut(face), due[face - 1]);
        }
    }

    private static void promise34MeanPaint() {
        PaintedDie x = new PaintedDie();
        Due.is("meanPaint()", x.meanPaint(), 0.0);
        x.addPaint(1, 1);
        Due.is("meanPaint()", x.meanPaint(), 1 / 6.0);
        x.addPaint(6, 18);
        Due.is("meanPaint()", x.meanPaint(), 19 / 6.0);
        x.roll(1);
        x.roll(3);
        Due.is("meanPaint(), some is used", x.meanPaint(), 3.0);
        for (int face = 1; face <= 6; face++) {
            x.addPaint(face, 20);
        }
        Due.is("meanPaint()", x.meanPaint(), 20.0);
    }

    private static void promise35Digest() {
        PaintedDie x = new PaintedDie();
        x.newBoard(3, 2);
        x.turnWall(2, 0);
        x.addPaint(5, 3);
        x.setColour(5, 8);
        x.roll(2);
        x.roll(1);
        long d = 1901;
        int[] first = {3, 2, 1, 2, 1, 1, 1, 4, 3, 6, 2, 1, 5};
        int[] faces = {1, 0, 2, 0, 3, 0, 4, 0, 8, 2, 6, 0};
        for (int number : first) {
            d = d * 31 + number;
        }
        for (int number : faces) {
            d = d * 31 + number;
        }
        for (int row = 0; row < 2; row++) {
            for (int column = 0; column < 3; column++) {
                d = d * 31 + (x.isWall(column, row) ? 1 : 0);
                d = d * 31 + x.printAt(column, row);
                d = d * 31 + x.fewestRolls(column, row);
                d = d * 31 + x.topsAt(column, row);
            }
        }
        Due.is("digest()", x.digest(), d);
    }

    private static void nothingIsChanged() {
        Ask[] questions = {new Ask("fewestRolls", 4, 4), new Ask("fewestRollsWithTop", 3, 3, 6),
            new Ask("firstRoll", 3, 3, 6), new Ask("topsAt", 4, 4), new Ask("cellsWithinReach"),
            new Ask("waysToLie"), new Ask("cellsBehind", 20), new Ask("bestPut", 5),
            new Ask("meanPaint"), new Ask("digest")};
        for (Ask question : questions) {
            PaintedDie x = new PaintedDie();
            x.addPaint(3, 4);
            x.turnWall(2, 0);
            x.roll(1);
            x.roll(2);
            String before = View.of(x);
            Object answer = question.of(x);
            Due.is("what there is behind " + question, View.of(x), before);
            Due.is(question + " again", question.of(x), answer);
        }
    }
}
