import java.math.BigInteger;
import java.util.ArrayList;
import java.util.List;

/** Promises 26 to 35, sentence by sentence, at their boundaries. */
final class WhatWouldBeSentences {
    private WhatWouldBeSentences() {
    }

    static void run() {
        fewest();
        reach();
        bestPutAndSums();
    }

    private static void fewest() {
        Sentence.holds(26, "Returns the fewest rolls that lead the die there, however it is turned then",
                WhatWouldBeSentences::fromNoneToTheMost);
        Sentence.holds(26, "-1 if none do", WhatWouldBeSentences::noneLeadThere);
        Sentence.holds(26, "(nothing is changed)", () -> nothingIsChanged(new Ask("fewestRolls", 1, 1)));
        Sentence.holds(26, "Throws `IndexOutOfBoundsException` if there is no such cell",
                () -> Refused.cellsOutside("fewestRolls"));
        Sentence.holds(27, "Returns the fewest rolls behind which the die lies there with this face on top",
                WhatWouldBeSentences::fewestWithEachTop);
        Sentence.holds(27, "-1 if it never does", WhatWouldBeSentences::neverWithThisTop);
        Sentence.holds(27, "(nothing is changed)", () -> nothingIsChanged(new Ask("fewestRollsWithTop", 1, 1, 6)));
        Sentence.holds(27, "Throws `IndexOutOfBoundsException` if there is no such cell",
                () -> Refused.cellsOutside("fewestRollsWithTop", 1));
        Sentence.holds(27, "or face is not 1 to 6",
                () -> Refused.lastArgument(Refused.OUTSIDE, 1, 6, "fewestRollsWithTop", 1, 1));
        Sentence.holds(28, "Returns the direction of the first one of so few rolls as fewestRollsWithTop() tells",
                WhatWouldBeSentences::directionOfTheOnlyWay);
        Sentence.holds(28, "of several the smallest number", WhatWouldBeSentences::smallestOfSeveralDirections);
        Sentence.holds(28, "-1 if that is 0 or -1", WhatWouldBeSentences::noFirstRoll);
        Sentence.holds(28, "(nothing is changed)", () -> nothingIsChanged(new Ask("firstRoll", 1, 0, 6)));
        Sentence.holds(28, "Throws `IndexOutOfBoundsException` if there is no such cell",
                () -> Refused.cellsOutside("firstRoll", 6));
        Sentence.holds(28, "or face is not 1 to 6", () -> Refused.lastArgument(Refused.OUTSIDE, 1, 6, "firstRoll", 1, 1));
    }

    private static void reach() {
        Sentence.holds(29, "Returns how many of the six faces can be on top there", WhatWouldBeSentences::noneToSixTops);
        Sentence.holds(29, "(nothing is changed)", () -> nothingIsChanged(new Ask("topsAt", 1, 1)));
        Sentence.holds(29, "Throws `IndexOutOfBoundsException` if there is no such cell", () -> Refused.cellsOutside("topsAt"));
        Sentence.holds(30, "Returns on how many cells the die can lie", WhatWouldBeSentences::everyCell);
        Sentence.holds(30, "that of now counted", WhatWouldBeSentences::onlyThatOfNow);
        Sentence.holds(30, "(nothing is changed)", () -> nothingIsChanged(new Ask("cellsWithinReach")));
        Sentence.holds(31, "Returns in how many ways it can lie: on which cell, with which face on top and which one to the north",
                WhatWouldBeSentences::fromOneWayToTheMost);
        Sentence.holds(31, "(nothing is changed)", () -> nothingIsChanged(new Ask("waysToLie")));
        Sentence.holds(32, "Returns how many cells the die can lie on behind just so many of them",
                WhatWouldBeSentences::behindJustSoMany);
        Sentence.holds(32, "- `rolls`: how many rolls", WhatWouldBeSentences::behindNoneAndBehindTheMost);
        Sentence.holds(32, "(nothing is changed)", () -> nothingIsChanged(new Ask("cellsBehind", 20)));
        Sentence.holds(32, "Throws `IllegalArgumentException` if rolls is not 0 to 20",
                () -> Refused.firstArgument(Refused.ARGUMENT, 0, 20, "cellsBehind"));
    }

    private static void bestPutAndSums() {
        Sentence.holds(33, "Looks where the die, put there, would come the soonest to where it lies now with a face on top.",
                WhatWouldBeSentences::soonestToWhereItLies);
        Sentence.holds(33, "Returns the width times the row, and the column, added, of the cell",
                WhatWouldBeSentences::widthTimesRowAndColumn);
        Sentence.holds(33, "of several the smallest such number", WhatWouldBeSentences::smallestOfSeveralCells);
        Sentence.holds(33, "-1 if from none it would", WhatWouldBeSentences::fromNoCell);
        Sentence.holds(33, "(nothing is changed)", () -> nothingIsChanged(new Ask("bestPut", 6)));
        Sentence.holds(33, "Throws `IndexOutOfBoundsException` if face is not 1 to 6",
                () -> Refused.firstArgument(Refused.OUTSIDE, 1, 6, "bestPut"));
        Sentence.holds(34, "Returns the mean paint of a face.", WhatWouldBeSentences::fromNoPaintToTheMost);
        Sentence.holds(35, "A number d starts with 1901", WhatWouldBeSentences::digestOfANewObject);
        Sentence.holds(35, "for each of the following numbers x, d becomes d * 31 + x, which wraps around as a 64-bit integer",
                WhatWouldBeSentences::wrapsAround);
        Sentence.holds(35, "(whether something is so counts 1 or 0)", WhatWouldBeSentences::wallsCountOneOrZero);
        Sentence.holds(35, "width(), height(), walls(), rolls(), prints(), column(), row(), top(), bottom(), faceTo() for each"
                + " direction; then for each face colourOf(), paintOf(); then for each cell, row by row, isWall(), printAt(),"
                + " fewestRolls(), topsAt().", WhatWouldBeSentences::followingNumbers);
        Sentence.holds(35, "Returns d.", () -> nothingIsChanged(new Ask("digest")));
    }

    private static void nothingIsChanged(Ask question) {
        for (State state : State.values()) {
            PaintedDie x = state.made();
            Object first = question.of(x);
            Due.is(state + ", what there is behind " + question, View.of(x), state.view());
            Due.is(state + ", " + question + " again", question.of(x), first);
        }
    }

    /** The longest way that a board can have: from the first cell to and fro down to cell 0, 6, by 30 rolls. */
    private static PaintedDie longWay() {
        PaintedDie x = State.board(7, 7);
        for (int row = 1; row < 7; row += 2) {
            int gap = row % 4 == 1 ? 6 : 0;
            for (int column = 0; column < 7; column++) {
                if (column != gap) {
                    x.turnWall(column, row);
                }
            }
        }
        return x;
    }

    /** How many rolls of the long way lead there, -1 for a wall. */
    private static int onTheLongWay(int column, int row) {
        if (row % 2 == 0) {
            return 4 * row + (row % 4 == 0 ? column : 6 - column);
        }
        return column == (row % 4 == 1 ? 6 : 0) ? 4 * row + 3 : -1;
    }

    /** A row of seven cells and one of walls; from the first cell to the east its tops are 1, 4, 6, 3, 1, 4, 6. */
    private static PaintedDie row() {
        PaintedDie x = State.board(7, 2);
        for (int column = 0; column < 7; column++) {
            x.turnWall(column, 1);
        }
        return x;
    }

    /** A column of seven cells and one of walls; from the first cell to the south its tops are 1, 2, 6, 5, 1, 2, 6. */
    private static PaintedDie column() {
        PaintedDie x = State.board(2, 7);
        for (int row = 0; row < 7; row++) {
            x.turnWall(1, row);
        }
        return x;
    }

    private static void fromNoneToTheMost() {
        PaintedDie x = longWay();
        for (int column = 0; column < 7; column++) {
            for (int row = 0; row < 7; row++) {
                Due.is("fewestRolls(" + column + ", " + row + ")", x.fewestRolls(column, row), onTheLongWay(column, row));
            }
        }
        Due.is("fewestRolls(0, 0), where it lies", x.fewestRolls(0, 0), 0);
        Due.is("fewestRolls(0, 6), the farthest", x.fewestRolls(0, 6), 30);
        PaintedDie y = State.board(7, 7);
        y.put(6, 6);
        Due.is("fewestRolls(6, 6), where it lies", y.fewestRolls(6, 6), 0);
        Due.is("fewestRolls(0, 0), no wall between", y.fewestRolls(0, 0), 12);
        PaintedDie z = new PaintedDie();
        z.roll(1);
        Due.is("fewestRolls(1, 0), where it lies with 4 on top", z.fewestRolls(1, 0), 0);
    }

    private static void noneLeadThere() {
        PaintedDie x = State.SHUT_IN.made();
        Due.is("fewestRolls(1, 0), a wall", x.fewestRolls(1, 0), -1);
        Due.is("fewestRolls(0, 0), cut off", x.fewestRolls(0, 0), -1);
        x.turnWall(1, 0);
        Due.is("fewestRolls(1, 0), no wall any more", x.fewestRolls(1, 0), 1);
        Due.is("fewestRolls(0, 0), not cut off any more", x.fewestRolls(0, 0), 2);
        PaintedDie y = longWay();
        y.turnWall(1, 6);
        Due.is("fewestRolls(0, 6), the last cell cut off", y.fewestRolls(0, 6), -1);
        Due.is("fewestRolls(2, 6), the last but two", y.fewestRolls(2, 6), 28);
        PaintedDie z = BoardAndDieSentences.fullOfWalls();
        Due.is("fewestRolls(6, 6), among nothing but walls", z.fewestRolls(6, 6), -1);
    }

    private static void fewestWithEachTop() {
        int[] tops = {1, 4, 6, 3, 1, 4, 6};
        int[] topsInColumn = {1, 2, 6, 5, 1, 2, 6};
        PaintedDie x = row();
        PaintedDie y = column();
        for (int far = 0; far < 7; far++) {
            Due.is("fewestRollsWithTop(" + far + ", 0, " + tops[far] + ")", x.fewestRollsWithTop(far, 0, tops[far]), far);
            Due.is("fewestRollsWithTop(0, " + far + ", " + topsInColumn[far] + ")",
                    y.fewestRollsWithTop(0, far, topsInColumn[far]), far);
        }
        PaintedDie z = State.board(7, 7);
        z.put(3, 3);
        int[] due = {0, 4, 4, 4, 4, 4};
        for (int face = 1; face <= 5; face++) {
            Due.is("fewestRollsWithTop(3, 3, " + face + "), where it lies", z.fewestRollsWithTop(3, 3, face), due[face - 1]);
        }
        Due.is("fewestRollsWithTop(3, 3, 6), where it lies, upside down", z.fewestRollsWithTop(3, 3, 6), 6);
        PaintedDie w = longWay();
        Due.is("fewestRollsWithTop at the end of the long way", w.fewestRollsWithTop(0, 6, topAtTheEnd()), 30);
    }

    /** The face that is on top when the long way has been rolled. */
    private static int topAtTheEnd() {
        PaintedDie x = longWay();
        for (int row = 0; row < 7; row += 2) {
            x.rollOn(row % 4 == 0 ? 1 : 3, 50);
            x.rollOn(2, 2);
        }
        return x.column() == 0 && x.row() == 6 ? x.top() : 0;
    }

    private static void neverWithThisTop() {
        int[] tops = {1, 4, 6, 3, 1, 4, 6};
        PaintedDie x = row();
        for (int column = 0; column < 7; column++) {
            for (int face = 1; face <= 6; face++) {
                if (face != tops[column]) {
                    Due.is("fewestRollsWithTop(" + column + ", 0, " + face + ")", x.fewestRollsWithTop(column, 0, face), -1);
                }
                Due.is("fewestRollsWithTop(" + column + ", 1, " + face + "), a wall", x.fewestRollsWithTop(column, 1, face), -1);
            }
        }
        x.turnWall(5, 0);
        Due.is("fewestRollsWithTop(6, 0, 6), cut off", x.fewestRollsWithTop(6, 0, 6), -1);
        PaintedDie y = State.board(2, 2);
        Due.is("fewestRollsWithTop(0, 0, 6), round and round", y.fewestRollsWithTop(0, 0, 6), -1);
        PaintedDie z = State.SHUT_IN.made();
        for (int face = 1; face <= 6; face++) {
            int due = face == z.top() ? 0 : -1;
            Due.is("fewestRollsWithTop(1, 1, " + face + "), shut in", z.fewestRollsWithTop(1, 1, face), due);
        }
    }

    /** Where there is one way only, its first roll is known: to each side at once, and along the long way. */
    private static void directionOfTheOnlyWay() {
        int[][] beside = {{3, 2, 5}, {4, 3, 4}, {3, 4, 2}, {2, 3, 3}};
        for (int direction = 0; direction <= 3; direction++) {
            PaintedDie x = State.board(7, 7);
            x.put(3, 3);
            int[] to = beside[direction];
            Due.is("firstRoll(" + to[0] + ", " + to[1] + ", " + to[2] + ")", x.firstRoll(to[0], to[1], to[2]), direction);
        }
        firstRollIntoCorners();
        alongTheLongWay();
    }

    private static void firstRollIntoCorners() {
        for (int corner = 0; corner < 4; corner++) {
            int column = corner % 2 * 6;
            int row = corner / 2 * 6;
            PaintedDie x = State.board(7, 7);
            x.put(column == 0 ? 1 : 5, row);
            Due.is("firstRoll into a corner", x.firstRoll(column, row, column == 0 ? 3 : 4), column == 0 ? 3 : 1);
            x.put(column, row == 0 ? 1 : 5);
            Due.is("firstRoll into a corner", x.firstRoll(column, row, row == 0 ? 5 : 2), row == 0 ? 0 : 2);
        }
    }

    private static void alongTheLongWay() {
        PaintedDie y = longWay();
        Due.is("firstRoll along the long way", y.firstRoll(0, 6, topAtTheEnd()), 1);
        for (int row = 0; row < 6; row += 2) {
            y.rollOn(row % 4 == 0 ? 1 : 3, 50);
            Due.is("firstRoll at the turn in row " + row, y.firstRoll(0, 6, topAtTheEnd()), 2);
            y.rollOn(2, 2);
            Due.is("firstRoll behind the turn", y.firstRoll(0, 6, topAtTheEnd()), row % 4 == 0 ? 3 : 1);
        }
        y.turnWall(1, 6);
        Due.is("firstRoll, the only way is shut", y.firstRoll(0, 6, topAtTheEnd()), -1);
        y.put(0, 4);
        y.rollOn(1, 6);
        Due.is("firstRoll(0, 4, 1), back to where it was", y.firstRoll(0, 4, 1), 3);
    }

    /** Every cell and face of a free board; a tie of each two directions must be among them. */
    private static void smallestOfSeveralDirections() {
        boolean[] tied = new boolean[16];
        for (int number = 0; number < Turns.COUNT; number += 5) {
            for (int cell = 0; cell < 49; cell++) {
                for (int face = 1; face <= 6; face++) {
                    int ties = directionsOf(number, cell % 7, cell / 7, face);
                    tied[ties] = true;
                    int due = ties == 0 ? -1 : Integer.numberOfTrailingZeros(ties);
                    Due.is(number + ", firstRoll(" + cell % 7 + ", " + cell / 7 + ", " + face + ")",
                            Turns.made(number).firstRoll(cell % 7, cell / 7, face), due);
                }
            }
        }
        for (int ties : new int[] {1, 2, 4, 8, 3, 6, 12, 9}) {
            Due.is("whether there is a case of the directions " + ties, tied[ties], true);
        }
    }

    /** The directions in which so few rolls can begin, direction d as the bit 1 << d. */
    private static int directionsOf(int number, int column, int row, int face) {
        int fewest = Turns.made(number).fewestRollsWithTop(column, row, face);
        int directions = 0;
        for (int direction = 0; direction <= 3 && fewest > 0; direction++) {
            PaintedDie x = Turns.made(number);
            x.roll(direction);
            if (x.fewestRollsWithTop(column, row, face) == fewest - 1) {
                directions |= 1 << direction;
            }
        }
        return directions;
    }

    private static void noFirstRoll() {
        for (int number = 0; number < Turns.COUNT; number++) {
            PaintedDie x = Turns.made(number);
            Due.is("firstRoll to where it lies, so few are 0", x.firstRoll(x.column(), x.row(), x.top()), -1);
        }
        PaintedDie y = State.board(2, 2);
        Due.is("firstRoll(0, 0, 6), it never lies so", y.firstRoll(0, 0, 6), -1);
        PaintedDie z = row();
        Due.is("firstRoll(1, 0, 1), it never lies so", z.firstRoll(1, 0, 1), -1);
        z.turnWall(1, 0);
        Due.is("firstRoll(2, 0, 6), cut off", z.firstRoll(2, 0, 6), -1);
        PaintedDie w = State.FULL.made();
        w.turnWall(3, 3);
        w.turnWall(5, 6);
        for (int face = 1; face <= 6; face++) {
            Due.is("firstRoll(3, 3, " + face + "), a wall", w.firstRoll(3, 3, face), -1);
            Due.is("firstRoll(5, 6, " + face + "), a wall beside it", w.firstRoll(5, 6, face), -1);
            for (int cell = 0; cell < 4; cell++) {
                Due.is("firstRoll, shut in", State.SHUT_IN.made().firstRoll(cell % 2, cell / 2, face), -1);
            }
        }
    }

    private static void noneToSixTops() {
        PaintedDie x = State.SHUT_IN.made();
        int[] due = {0, 0, 0, 1};
        for (int cell = 0; cell < 4; cell++) {
            Due.is("topsAt(" + cell % 2 + ", " + cell / 2 + "), shut in", x.topsAt(cell % 2, cell / 2), due[cell]);
        }
        PaintedDie y = longWay();
        for (int cell = 0; cell < 49; cell++) {
            int tops = onTheLongWay(cell % 7, cell / 7) == -1 ? 0 : 1;
            Due.is("topsAt, the long way", y.topsAt(cell % 7, cell / 7), tops);
        }
        PaintedDie square = State.board(2, 2);
        PaintedDie free = State.board(7, 7);
        for (int cell = 0; cell < 49; cell++) {
            Due.is("topsAt, the greatest board", free.topsAt(cell % 7, cell / 7), 6);
            Due.is("topsAt, the least board", square.topsAt(cell % 2, cell / 2 % 2), 3);
        }
    }

    private static void everyCell() {
        for (int w = 2; w <= 7; w++) {
            for (int h = 2; h <= 7; h++) {
                PaintedDie x = State.board(w, h);
                Due.is("cellsWithinReach(), " + w + " by " + h, x.cellsWithinReach(), w * h);
                x.turnWall(w - 1, h - 1);
                Due.is("cellsWithinReach(), the last a wall", x.cellsWithinReach(), w * h - 1);
            }
        }
        PaintedDie y = longWay();
        Due.is("cellsWithinReach(), the long way", y.cellsWithinReach(), 31);
        y.turnWall(1, 6);
        Due.is("cellsWithinReach(), the last cell cut off", y.cellsWithinReach(), 29);
    }

    private static void onlyThatOfNow() {
        Due.is("cellsWithinReach(), shut in", State.SHUT_IN.made().cellsWithinReach(), 1);
        PaintedDie x = BoardAndDieSentences.fullOfWalls();
        Due.is("cellsWithinReach(), among nothing but walls", x.cellsWithinReach(), 1);
        x.turnWall(1, 0);
        Due.is("cellsWithinReach(), with one beside it", x.cellsWithinReach(), 2);
        x.turnWall(6, 6);
        Due.is("cellsWithinReach(), with one that is cut off", x.cellsWithinReach(), 2);
        x.put(6, 6);
        Due.is("cellsWithinReach(), where it is cut off", x.cellsWithinReach(), 1);
    }

    private static void fromOneWayToTheMost() {
        Due.is("waysToLie(), shut in", State.SHUT_IN.made().waysToLie(), 1);
        Due.is("waysToLie(), the long way", longWay().waysToLie(), 31);
        Due.is("waysToLie(), the least board", State.board(2, 2).waysToLie(), 12);
        Due.is("waysToLie(), the greatest board", State.board(7, 7).waysToLie(), 588);
        PaintedDie x = State.FULL.made();
        Due.is("waysToLie(), from its last cell", x.waysToLie(), 588);
        x.turnWall(5, 6);
        x.turnWall(6, 5);
        Due.is("waysToLie(), the last cell shut in", x.waysToLie(), 1);
        x.put(0, 0);
        Due.is("waysToLie() on all the others", x.waysToLie(), 12 * 46);
    }

    /** Neither fewer nor more: the cells of one colour of a chessboard, as far as the rolls lead. */
    private static void behindJustSoMany() {
        PaintedDie x = longWay();
        PaintedDie y = row();
        PaintedDie z = State.board(7, 7);
        z.put(3, 3);
        int[] spread = {1, 4, 9, 16, 21, 24, 25};
        for (int rolls = 0; rolls <= 20; rolls++) {
            Due.is("cellsBehind(" + rolls + "), the long way", x.cellsBehind(rolls), rolls / 2 + 1);
            int most = rolls % 2 == 0 ? 4 : 3;
            Due.is("cellsBehind(" + rolls + "), a row", y.cellsBehind(rolls), rolls / 2 + 1 < most ? rolls / 2 + 1 : most);
            int due = rolls <= 6 ? spread[rolls] : rolls % 2 == 0 ? 25 : 24;
            Due.is("cellsBehind(" + rolls + "), from the middle", z.cellsBehind(rolls), due);
        }
    }

    private static void behindNoneAndBehindTheMost() {
        for (State state : State.values()) {
            Due.is(state + ", cellsBehind(0)", state.made().cellsBehind(0), 1);
        }
        for (int rolls = 1; rolls <= 20; rolls++) {
            Due.is("cellsBehind(" + rolls + "), shut in", State.SHUT_IN.made().cellsBehind(rolls), 0);
        }
        Due.is("cellsBehind(20), the least board", State.board(2, 2).cellsBehind(20), 2);
        Due.is("cellsBehind(20), the greatest board", State.board(7, 7).cellsBehind(20), 25);
        Due.is("cellsBehind(19), the greatest board", State.board(7, 7).cellsBehind(19), 24);
        for (int[] beside : new int[][] {{3, 2}, {4, 3}, {3, 4}, {2, 3}}) {
            PaintedDie x = BoardAndDieSentences.fullOfWalls();
            x.turnWall(3, 3);
            x.put(3, 3);
            Due.is("cellsBehind(20), four walls around", x.cellsBehind(20), 0);
            x.turnWall(beside[0], beside[1]);
            Due.is("cellsBehind(1), two cells", x.cellsBehind(1), 1);
            Due.is("cellsBehind(19), two cells", x.cellsBehind(19), 1);
            Due.is("cellsBehind(20), two cells", x.cellsBehind(20), 1);
        }
        Due.is("cellsBehind(20), the farthest of the long way is out of it", longWay().cellsBehind(20), 11);
    }

    private static void soonestToWhereItLies() {
        PaintedDie x = row();
        x.rollOn(1, 3);
        best(x, 3, -1, 4, 2, -1, 1);
        x.put(3, 0);
        best(x, 3, -1, 4, 2, -1, 1);
        x.turnWall(2, 0);
        best(x, 3, -1, 4, 6, -1, 5);
        PaintedDie y = column();
        y.rollOn(2, 3);
        best(y, 6, 4, -1, -1, 8, 2);
        best(State.SHUT_IN.made(), 3, -1, -1, -1, -1, -1);
        for (int cell = 0; cell < 49; cell++) {
            PaintedDie z = State.board(7, 7);
            z.put(cell % 7, cell / 7);
            Due.is("bestPut(1), where it lies, by no roll", z.bestPut(1), cell);
        }
    }

    private static void widthTimesRowAndColumn() {
        for (int w = 2; w <= 7; w++) {
            for (int h = 2; h <= 7; h++) {
                PaintedDie x = State.board(w, h);
                Due.is("bestPut(1), the least", x.bestPut(1), 0);
                x.rollOn(1, 50);
                x.rollOn(2, 50);
                Due.is("bestPut(1), the greatest of " + w + " by " + h, x.bestPut(1), w * h - 1);
                Due.is("bestPut(4), from the west", x.bestPut(4), w * (h - 1) + w - 2);
                Due.is("bestPut(2), from the north", x.bestPut(2), w * (h - 2) + w - 1);
                x.put(0, 0);
                Due.is("bestPut(3), from the east", x.bestPut(3), 1);
                Due.is("bestPut(5), from the south", x.bestPut(5), w);
            }
        }
    }

    /** With 6 on top the die comes from two cells to each side by two rolls: the first of the four in reading order. */
    private static void smallestOfSeveralCells() {
        PaintedDie x = State.board(6, 7);
        x.put(3, 3);
        Due.is("bestPut(6), of four", x.bestPut(6), 6 * 1 + 3);
        x.turnWall(3, 1);
        Due.is("bestPut(6), of the other three", x.bestPut(6), 6 * 3 + 1);
        x.turnWall(1, 3);
        Due.is("bestPut(6), of the other two", x.bestPut(6), 6 * 3 + 5);
        x.turnWall(5, 3);
        Due.is("bestPut(6), the last", x.bestPut(6), 6 * 5 + 3);
    }

    private static void fromNoCell() {
        for (int face = 2; face <= 6; face++) {
            Due.is("bestPut(" + face + "), shut in", State.SHUT_IN.made().bestPut(face), -1);
        }
        PaintedDie x = BoardAndDieSentences.fullOfWalls();
        best(x, 0, -1, -1, -1, -1, -1);
        x.turnWall(1, 0);
        best(x, 0, -1, 1, -1, -1, -1);
        Due.is("bestPut(6), the least board", State.board(2, 2).bestPut(6), -1);
        Due.is("bestPut(2), a row", row().bestPut(2), -1);
        Due.is("bestPut(3), a column", column().bestPut(3), -1);
    }

    private static void best(PaintedDie x, int... due) {
        for (int face = 1; face <= 6; face++) {
            Due.is("bestPut(" + face + ")", x.bestPut(face), due[face - 1]);
        }
    }

    private static void fromNoPaintToTheMost() {
        PaintedDie x = new PaintedDie();
        Due.is("meanPaint(), none", x.meanPaint(), 0.0);
        for (int paint = 1; paint <= 120; paint++) {
            x.addPaint((paint - 1) / 20 + 1, 1);
            Due.is("meanPaint(), " + paint + " in all", x.meanPaint(), paint / 6.0);
        }
        Due.is("meanPaint(), the most", x.meanPaint(), 20.0);
        x.addPaint(6, 20);
        Due.is("meanPaint(), more is lost", x.meanPaint(), 20.0);
    }

    /** This number was worked out from the document by a program that is not written in Java. */
    private static void digestOfANewObject() {
        Due.is("digest()", new PaintedDie().digest(), 2626179432269764565L);
    }

    private static void wrapsAround() {
        for (State state : State.values()) {
            BigInteger whole = digestOf(numbersOf(state.made()));
            Due.is(state + ", digest()", state.made().digest(), whole.longValue());
            Due.is(state + ", whether d outgrows 64 bits", whole.bitLength() > 64, true);
        }
    }

    /** A wall more, on a cell that is cut off: walls() and isWall() there are 1 more, 38 and 15 numbers ahead of the last. */
    private static void wallsCountOneOrZero() {
        PaintedDie x = State.SHUT_IN.made();
        long without = x.digest();
        x.turnWall(0, 0);
        BigInteger base = BigInteger.valueOf(31);
        Due.is("by how much a wall moves digest()", x.digest() - without, base.pow(38).add(base.pow(15)).longValue());
    }

    private static void followingNumbers() {
        PaintedDie x = State.board(2, 3);
        x.addPaint(3, 3);
        x.setColour(3, 8);
        x.roll(1);
        x.turnWall(0, 0);
        List<Integer> due = List.of(2, 3, 1, 1, 1, 1, 0, 4, 3, 2, 1, 5, 6,
                1, 0, 2, 0, 8, 2, 4, 0, 5, 0, 6, 0,
                1, 0, -1, 0, 0, 8, 0, 3,
                0, 0, 2, 3, 0, 0, 1, 3,
                0, 0, 3, 3, 0, 0, 2, 3);
        Due.is("the numbers", numbersOf(x), due);
        Due.is("digest()", x.digest(), digestOf(due).longValue());
    }

    private static List<Integer> numbersOf(PaintedDie x) {
        List<Integer> numbers = new ArrayList<>(List.of(x.width(), x.height(), x.walls(), x.rolls(), x.prints(),
                x.column(), x.row(), x.top(), x.bottom()));
        for (int direction = 0; direction <= 3; direction++) {
            numbers.add(x.faceTo(direction));
        }
        for (int face = 1; face <= 6; face++) {
            numbers.add(x.colourOf(face));
            numbers.add(x.paintOf(face));
        }
        for (int row = 0; row < x.height(); row++) {
            for (int column = 0; column < x.width(); column++) {
                numbers.add(x.isWall(column, row) ? 1 : 0);
                numbers.add(x.printAt(column, row));
                numbers.add(x.fewestRolls(column, row));
                numbers.add(x.topsAt(column, row));
            }
        }
        return numbers;
    }

    private static BigInteger digestOf(List<Integer> numbers) {
        BigInteger d = BigInteger.valueOf(1901);
        for (int x : numbers) {
            d = d.multiply(BigInteger.valueOf(31)).add(BigInteger.valueOf(x));
        }
        return d;
    }
}
