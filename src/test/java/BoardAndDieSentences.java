/** Promises 1 to 8, sentence by sentence, at their boundaries. */
final class BoardAndDieSentences {
    private BoardAndDieSentences() {
    }

    static void run() {
        newObjectAndNewBoard();
        wallsColoursAndPaint();
        puttingAndRolling();
    }

    private static void newObjectAndNewBoard() {
        Sentence.holds(1, "Creates a board of 5 by 5 cells without walls and prints",
                BoardAndDieSentences::anEmptyBoard);
        Sentence.holds(1, "and a die as it is at first.", BoardAndDieSentences::aDieAsAtFirst);
        Sentence.holds(2, "Takes another board, without walls and prints", BoardAndDieSentences::anotherBoard);
        Sentence.holds(2, "the die lies on it as at first", BoardAndDieSentences::asAtFirstOnTheNewBoard);
        Sentence.holds(2, "with its colours and paint as they are", BoardAndDieSentences::coloursAndPaintStay);
        Sentence.holds(2, "rolls and prints are counted anew.", BoardAndDieSentences::countedAnew);
        Sentence.holds(2, "Returns how many cells it has.", BoardAndDieSentences::howManyCells);
        Sentence.holds(2, "Throws `IllegalArgumentException` if w or h is not 2 to 7",
                BoardAndDieSentences::boardsThatAreNone);
    }

    private static void wallsColoursAndPaint() {
        Sentence.holds(3, "Makes a cell a wall, or not any more, if it is one", BoardAndDieSentences::wallAndNoWall);
        Sentence.holds(3, "its print stays.", BoardAndDieSentences::printOfAWallStays);
        Sentence.holds(3, "Returns whether it is a wall then.", BoardAndDieSentences::whetherItIsAWallThen);
        Sentence.holds(3, "Throws `IndexOutOfBoundsException` if there is no such cell",
                () -> Refused.cellsOutside("turnWall"));
        Sentence.holds(3, "Throws `IllegalStateException` if the die lies there", BoardAndDieSentences::noWallUnderTheDie);
        Sentence.holds(4, "its colour from now on; prints stay as they are", BoardAndDieSentences::printsStay);
        Sentence.holds(4, "Returns the one before.", BoardAndDieSentences::theColourBefore);
        Sentence.holds(4, "Throws `IndexOutOfBoundsException` if face is not 1 to 6",
                () -> Refused.firstArgument(Refused.OUTSIDE, 1, 6, "setColour", 7));
        Sentence.holds(4, "Throws `IllegalArgumentException` if colour is not 1 to 9",
                BoardAndDieSentences::coloursThatAreNone);
        Sentence.holds(5, "Gives a face paint", BoardAndDieSentences::onlyThisFace);
        Sentence.holds(5, "more than 20 is lost.", BoardAndDieSentences::moreThan20IsLost);
        Sentence.holds(5, "Returns how much it has then.", BoardAndDieSentences::howMuchItHasThen);
        Sentence.holds(5, "Throws `IndexOutOfBoundsException` if face is not 1 to 6",
                () -> Refused.firstArgument(Refused.OUTSIDE, 1, 6, "addPaint", 1));
        Sentence.holds(5, "Throws `IllegalArgumentException` if paint is not 1 to 20",
                BoardAndDieSentences::paintThatIsNone);
    }

    private static void puttingAndRolling() {
        Sentence.holds(6, "Puts the die on a cell, turned as at first", BoardAndDieSentences::putOnEveryCell);
        Sentence.holds(6, "nothing is printed.", BoardAndDieSentences::nothingIsPrinted);
        Sentence.holds(6, "Returns how many columns and how many rows it is from where it was, added.",
                BoardAndDieSentences::howFarItIsPut);
        Sentence.holds(6, "Throws `IndexOutOfBoundsException` if there is no such cell", () -> Refused.cellsOutside("put"));
        Sentence.holds(6, "Throws `IllegalStateException` if it is a wall", BoardAndDieSentences::notPutOnAWall);
        Sentence.holds(7, "Rolls the die once.", BoardAndDieSentences::justOnce);
        Sentence.holds(7, "Returns the face at the bottom then.", BoardAndDieSentences::theFaceAtTheBottomThen);
        Sentence.holds(7, "Throws `IndexOutOfBoundsException` if direction is not 0 to 3",
                () -> Refused.firstArgument(Refused.OUTSIDE, 0, 3, "roll"));
        Sentence.holds(7, "Throws `IllegalStateException` if this roll cannot be made",
                BoardAndDieSentences::rollsThatCannotBeMade);
        Sentence.holds(8, "Rolls the die in a direction, until the next roll cannot be made",
                BoardAndDieSentences::untilItCannotRoll);
        Sentence.holds(8, "or so many are made.", BoardAndDieSentences::untilSoManyAreMade);
        Sentence.holds(8, "Returns how many are made", BoardAndDieSentences::howManyAreMade);
        Sentence.holds(8, "0 if none can be.", BoardAndDieSentences::noneCanBeMade);
        Sentence.holds(8, "Throws `IndexOutOfBoundsException` if direction is not 0 to 3",
                () -> Refused.firstArgument(Refused.OUTSIDE, 0, 3, "rollOn", 50));
        Sentence.holds(8, "Throws `IllegalArgumentException` if rolls is not 1 to 50",
                BoardAndDieSentences::numbersOfRollsThatAreNone);
    }

    private static void anEmptyBoard() {
        PaintedDie x = new PaintedDie();
        Due.is("width()", x.width(), 5);
        Due.is("height()", x.height(), 5);
        isEmpty(x, 25);
    }

    private static void isEmpty(PaintedDie x, int cells) {
        Due.is("walls()", x.walls(), 0);
        for (int column = 0; column < x.width(); column++) {
            for (int row = 0; row < x.height(); row++) {
                Due.is("isWall(" + column + ", " + row + ")", x.isWall(column, row), false);
                Due.is("printAt(" + column + ", " + row + ")", x.printAt(column, row), 0);
            }
        }
        Due.is("cellsWith(0)", x.cellsWith(0), cells);
        for (int colour = 1; colour <= 9; colour++) {
            Due.is("cellsWith(" + colour + ")", x.cellsWith(colour), 0);
        }
    }

    private static void aDieAsAtFirst() {
        PaintedDie x = new PaintedDie();
        liesAsAtFirst(x);
        for (int face = 1; face <= 6; face++) {
            Due.is("colourOf(" + face + ")", x.colourOf(face), face);
            Due.is("paintOf(" + face + ")", x.paintOf(face), 0);
        }
        Due.is("rolls()", x.rolls(), 0);
        Due.is("prints()", x.prints(), 0);
    }

    private static void liesAsAtFirst(PaintedDie x) {
        Due.is("column()", x.column(), 0);
        Due.is("row()", x.row(), 0);
        Due.is("isAsAtFirst()", x.isAsAtFirst(), true);
        Due.is("north, east, south, west, top, bottom", Turns.facesOf(x), "235416");
    }

    /** From the board that is full of prints, and from one full of walls, to every size, their own too. */
    private static void anotherBoard() {
        for (int w = 2; w <= 7; w++) {
            for (int h = 2; h <= 7; h++) {
                PaintedDie x = State.FULL.made();
                x.newBoard(w, h);
                isEmpty(x, w * h);
                PaintedDie y = fullOfWalls();
                y.newBoard(w, h);
                isEmpty(y, w * h);
                int wide = w;
                int high = h;
                Due.isThrown("isWall, no cell any more", IndexOutOfBoundsException.class, () -> y.isWall(wide, 0));
                Due.isThrown("isWall, no cell any more", IndexOutOfBoundsException.class, () -> y.isWall(0, high));
            }
        }
        PaintedDie z = State.FULL.made();
        z.newBoard(2, 2);
        z.newBoard(7, 7);
        isEmpty(z, 49);
    }

    /** The greatest board: every cell is a wall but the first, where the die lies. */
    static PaintedDie fullOfWalls() {
        PaintedDie x = State.board(7, 7);
        for (int cell = 1; cell < 49; cell++) {
            x.turnWall(cell % 7, cell / 7);
        }
        return x;
    }

    private static void asAtFirstOnTheNewBoard() {
        PaintedDie x = State.FULL.made();
        x.newBoard(7, 7);
        liesAsAtFirst(x);
        x.rollOn(1, 6);
        x.rollOn(2, 5);
        x.newBoard(2, 2);
        liesAsAtFirst(x);
        x.roll(2);
        x.newBoard(2, 2);
        liesAsAtFirst(x);
    }

    private static void coloursAndPaintStay() {
        PaintedDie x = new PaintedDie();
        int[] colours = {9, 1, 9, 4, 2, 1};
        int[] paint = {20, 0, 1, 19, 5, 20};
        for (int face = 1; face <= 6; face++) {
            x.setColour(face, colours[face - 1]);
            if (paint[face - 1] > 0) {
                x.addPaint(face, paint[face - 1]);
            }
        }
        for (int size : new int[] {5, 2, 7}) {
            x.newBoard(size, size);
            for (int face = 1; face <= 6; face++) {
                Due.is("colourOf(" + face + ")", x.colourOf(face), colours[face - 1]);
                Due.is("paintOf(" + face + ")", x.paintOf(face), paint[face - 1]);
            }
        }
    }

    private static void countedAnew() {
        PaintedDie x = State.FULL.made();
        Due.is("rolls() on the old board", x.rolls(), 50);
        Due.is("prints() on the old board", x.prints(), 50);
        x.newBoard(7, 7);
        Due.is("rolls()", x.rolls(), 0);
        Due.is("prints()", x.prints(), 0);
        x.roll(1);
        Due.is("rolls() behind one", x.rolls(), 1);
        Due.is("prints() behind one", x.prints(), 1);
    }

    private static void howManyCells() {
        PaintedDie x = new PaintedDie();
        for (int w = 2; w <= 7; w++) {
            for (int h = 2; h <= 7; h++) {
                Due.is("newBoard(" + w + ", " + h + ")", x.newBoard(w, h), w * h);
            }
        }
        Due.is("newBoard(2, 2), the least", x.newBoard(2, 2), 4);
        Due.is("newBoard(7, 7), the greatest", x.newBoard(7, 7), 49);
    }

    private static void boardsThatAreNone() {
        for (int fit : new int[] {2, 7}) {
            Refused.firstArgument(Refused.ARGUMENT, 2, 7, "newBoard", fit);
            Refused.lastArgument(Refused.ARGUMENT, 2, 7, "newBoard", fit);
        }
        for (int no : Refused.numbersBeside(2, 7)) {
            Refused.inEveryState(Refused.ARGUMENT, "newBoard", no, no);
        }
        Refused.inEveryState(Refused.ARGUMENT, "newBoard", 1, 8);
        Refused.inEveryState(Refused.ARGUMENT, "newBoard", 8, 1);
    }

    private static void wallAndNoWall() {
        PaintedDie x = State.board(3, 4);
        for (int[] cell : new int[][] {{1, 0}, {2, 0}, {0, 3}, {2, 3}, {1, 2}}) {
            for (int due = 1; due >= 0; due--) {
                x.turnWall(cell[0], cell[1]);
                Due.is("walls()", x.walls(), due);
                for (int column = 0; column < 3; column++) {
                    for (int row = 0; row < 4; row++) {
                        boolean isDue = due == 1 && column == cell[0] && row == cell[1];
                        Due.is("isWall(" + column + ", " + row + ")", x.isWall(column, row), isDue);
                    }
                }
            }
        }
    }

    private static void printOfAWallStays() {
        PaintedDie x = State.FULL.made();
        for (int cell = 0; cell < 48; cell++) {
            x.turnWall(cell % 7, cell / 7);
            Due.is("printAt of a wall", x.printAt(cell % 7, cell / 7), 9);
        }
        Due.is("cellsWith(9), all but one are walls", x.cellsWith(9), 49);
        for (int cell = 0; cell < 48; cell++) {
            x.turnWall(cell % 7, cell / 7);
            Due.is("printAt of a wall that was", x.printAt(cell % 7, cell / 7), 9);
        }
        PaintedDie y = new PaintedDie();
        y.turnWall(1, 0);
        Due.is("printAt(1, 0), a wall and never printed", y.printAt(1, 0), 0);
    }

    private static void whetherItIsAWallThen() {
        PaintedDie x = State.board(7, 2);
        for (int time = 0; time < 4; time++) {
            Due.is("turnWall(6, 1)", x.turnWall(6, 1), time % 2 == 0);
            Due.is("turnWall(1, 0)", x.turnWall(1, 0), time % 2 == 0);
        }
    }

    private static void noWallUnderTheDie() {
        Refused.in(State.FRESH, Refused.STATE, "turnWall", 0, 0);
        Refused.in(State.BESIDE_WALLS, Refused.STATE, "turnWall", 2, 1);
        Refused.in(State.SHUT_IN, Refused.STATE, "turnWall", 1, 1);
        Refused.in(State.FULL, Refused.STATE, "turnWall", 6, 6);
        PaintedDie x = new PaintedDie();
        x.roll(1);
        Due.is("turnWall(0, 0), where it was", x.turnWall(0, 0), true);
        Refused.by(x, Refused.STATE, "turnWall", 1, 0);
        x.put(3, 4);
        Due.is("turnWall(1, 0), where it was", x.turnWall(1, 0), true);
        Due.is("turnWall(4, 3), its row as the column", x.turnWall(4, 3), true);
        Due.isThrown("turnWall(3, 4)", IllegalStateException.class, () -> x.turnWall(3, 4));
        x.newBoard(5, 5);
        Due.is("turnWall(3, 4), where it was", x.turnWall(3, 4), true);
        Due.isThrown("turnWall(0, 0)", IllegalStateException.class, () -> x.turnWall(0, 0));
    }

    private static void printsStay() {
        PaintedDie x = State.FULL.made();
        for (int face = 1; face <= 6; face++) {
            x.setColour(face, 1);
        }
        Due.is("cellsWith(9)", x.cellsWith(9), 49);
        Due.is("cellsWith(1)", x.cellsWith(1), 0);
        x.roll(3);
        Due.is("printAt(6, 6), where it lay", x.printAt(6, 6), 9);
        Due.is("printAt(5, 6), printed from now on", x.printAt(5, 6), 1);
        Due.is("cellsWith(9)", x.cellsWith(9), 48);
    }

    private static void theColourBefore() {
        PaintedDie x = new PaintedDie();
        for (int face = 1; face <= 6; face++) {
            Due.is("setColour(" + face + ", 9)", x.setColour(face, 9), face);
            Due.is("setColour(" + face + ", 9), the same", x.setColour(face, 9), 9);
            Due.is("setColour(" + face + ", 1)", x.setColour(face, 1), 9);
            Due.is("setColour(" + face + ", 5)", x.setColour(face, 5), 1);
            Due.isThrown("setColour, refused", IllegalArgumentException.class, () -> x.setColour(1, 10));
        }
        Due.is("setColour(1, 1), behind a refused one", x.setColour(1, 1), 5);
    }

    private static void coloursThatAreNone() {
        for (int face : new int[] {1, 6}) {
            Refused.lastArgument(Refused.ARGUMENT, 1, 9, "setColour", face);
        }
    }

    private static void onlyThisFace() {
        for (int face = 1; face <= 6; face++) {
            PaintedDie x = new PaintedDie();
            x.addPaint(face, 20);
            for (int other = 1; other <= 6; other++) {
                Due.is("paintOf(" + other + ")", x.paintOf(other), other == face ? 20 : 0);
            }
        }
    }

    /** Every sum that there can be, and that what is lost does not come back. */
    private static void moreThan20IsLost() {
        for (int first = 1; first <= 20; first++) {
            for (int second = 1; second <= 20; second++) {
                PaintedDie x = new PaintedDie();
                x.addPaint(3, first);
                x.addPaint(3, second);
                int due = first + second < 20 ? first + second : 20;
                Due.is(first + " and " + second + ", paintOf(3)", x.paintOf(3), due);
                x.roll(1);
                Due.is(first + " and " + second + ", paintOf(3) behind a print", x.paintOf(3), due - 1);
            }
        }
    }

    private static void howMuchItHasThen() {
        PaintedDie x = new PaintedDie();
        for (int face = 1; face <= 6; face++) {
            Due.is("addPaint(" + face + ", 1)", x.addPaint(face, 1), 1);
            Due.is("addPaint(" + face + ", 18)", x.addPaint(face, 18), 19);
            Due.is("addPaint(" + face + ", 1), just full", x.addPaint(face, 1), 20);
            Due.is("addPaint(" + face + ", 1), full", x.addPaint(face, 1), 20);
            Due.is("addPaint(" + face + ", 20), full", x.addPaint(face, 20), 20);
        }
        Due.is("addPaint(6, 20), at once", new PaintedDie().addPaint(6, 20), 20);
    }

    private static void paintThatIsNone() {
        for (int face : new int[] {1, 6}) {
            Refused.lastArgument(Refused.ARGUMENT, 1, 20, "addPaint", face);
        }
    }

    private static void putOnEveryCell() {
        for (int column = 0; column < 7; column++) {
            for (int row = 0; row < 3; row++) {
                PaintedDie x = State.board(7, 3);
                x.rollOn(1, 3);
                x.roll(2);
                x.put(column, row);
                Due.is("column()", x.column(), column);
                Due.is("row()", x.row(), row);
                Due.is("isAsAtFirst()", x.isAsAtFirst(), true);
                Due.is("north, east, south, west, top, bottom", Turns.facesOf(x), "235416");
            }
        }
    }

    private static void nothingIsPrinted() {
        PaintedDie x = new PaintedDie();
        for (int face = 1; face <= 6; face++) {
            x.addPaint(face, 20);
        }
        for (int[] cell : new int[][] {{4, 4}, {0, 0}, {0, 0}, {2, 3}}) {
            x.put(cell[0], cell[1]);
            Due.is("printAt, where it is put", x.printAt(cell[0], cell[1]), 0);
        }
        Due.is("cellsWith(0)", x.cellsWith(0), 25);
        Due.is("prints()", x.prints(), 0);
        Due.is("rolls()", x.rolls(), 0);
        Due.is("meanPaint()", x.meanPaint(), 20.0);
        PaintedDie y = State.FULL.made();
        y.setColour(6, 1);
        y.put(3, 3);
        Due.is("printAt(3, 3), printed before", y.printAt(3, 3), 9);
        Due.is("prints(), as before", y.prints(), 50);
        Due.is("rolls(), as before", y.rolls(), 50);
    }

    private static void howFarItIsPut() {
        for (int from = 0; from < 49; from++) {
            PaintedDie x = State.board(7, 7);
            for (int to = 0; to < 49; to++) {
                x.put(from % 7, from / 7);
                int columns = Math.abs(from % 7 - to % 7);
                int rows = Math.abs(from / 7 - to / 7);
                Due.is("put(" + to % 7 + ", " + to / 7 + ")", x.put(to % 7, to / 7), columns + rows);
            }
        }
        PaintedDie y = State.board(7, 7);
        Due.is("put(0, 0), where it lies", y.put(0, 0), 0);
        Due.is("put(6, 6), the farthest", y.put(6, 6), 12);
    }

    private static void notPutOnAWall() {
        Refused.in(State.BESIDE_WALLS, Refused.STATE, "put", 3, 1);
        Refused.in(State.BESIDE_WALLS, Refused.STATE, "put", 2, 0);
        Refused.in(State.SHUT_IN, Refused.STATE, "put", 1, 0);
        Refused.in(State.SHUT_IN, Refused.STATE, "put", 0, 1);
        PaintedDie x = fullOfWalls();
        for (int cell = 1; cell < 49; cell++) {
            int column = cell % 7;
            int row = cell / 7;
            Due.isThrown("put(" + column + ", " + row + ")", IllegalStateException.class, () -> x.put(column, row));
        }
        Due.is("put(0, 0), no wall", x.put(0, 0), 0);
        x.turnWall(6, 6);
        Due.is("put(6, 6), no wall any more", x.put(6, 6), 12);
    }

    private static void justOnce() {
        PaintedDie x = State.board(7, 7);
        x.addPaint(3, 20);
        x.addPaint(6, 20);
        x.roll(1);
        Due.is("column()", x.column(), 1);
        Due.is("rolls()", x.rolls(), 1);
        Due.is("prints()", x.prints(), 1);
        Due.is("cellsWith(0)", x.cellsWith(0), 48);
        Due.is("paintOf(3)", x.paintOf(3), 19);
        x.roll(3);
        Due.is("column() behind the way back", x.column(), 0);
        Due.is("rolls()", x.rolls(), 2);
    }

    private static void theFaceAtTheBottomThen() {
        for (int number = 0; number < Turns.COUNT; number++) {
            for (int direction = 0; direction <= 3; direction++) {
                PaintedDie x = Turns.made(number);
                int due = x.faceTo(direction);
                Due.is(Turns.facesOf(x) + ", roll(" + direction + ")", x.roll(direction), due);
                Due.is("bottom()", x.bottom(), due);
            }
        }
    }

    private static void rollsThatCannotBeMade() {
        Refused.in(State.FRESH, Refused.STATE, "roll", 0);
        Refused.in(State.FRESH, Refused.STATE, "roll", 3);
        Refused.in(State.BESIDE_WALLS, Refused.STATE, "roll", 0);
        Refused.in(State.BESIDE_WALLS, Refused.STATE, "roll", 1);
        Refused.in(State.FULL, Refused.STATE, "roll", 1);
        Refused.in(State.FULL, Refused.STATE, "roll", 2);
        PaintedDie x = State.BESIDE_WALLS.made();
        x.turnWall(1, 1);
        x.turnWall(2, 2);
        for (int direction = 0; direction <= 3; direction++) {
            Refused.in(State.SHUT_IN, Refused.STATE, "roll", direction);
            int to = direction;
            Due.isThrown("roll(" + direction + ") among four walls", IllegalStateException.class, () -> x.roll(to));
        }
        overEveryEdge();
    }

    private static void overEveryEdge() {
        for (int w = 2; w <= 7; w++) {
            for (int h = 2; h <= 7; h++) {
                PaintedDie x = State.board(w, h);
                Due.isThrown("roll(0) in the north", IllegalStateException.class, () -> x.roll(0));
                Due.isThrown("roll(3) in the west", IllegalStateException.class, () -> x.roll(3));
                x.put(w - 1, h - 1);
                Due.isThrown("roll(1) in the east", IllegalStateException.class, () -> x.roll(1));
                Due.isThrown("roll(2) in the south", IllegalStateException.class, () -> x.roll(2));
                Due.is("rolls()", x.rolls(), 0);
            }
        }
    }

    private static void untilItCannotRoll() {
        PaintedDie x = State.board(7, 4);
        x.rollOn(1, 50);
        Due.is("column(), up to the edge", x.column(), 6);
        Due.is("row()", x.row(), 0);
        x.rollOn(2, 50);
        Due.is("row(), up to the edge", x.row(), 3);
        x.turnWall(2, 3);
        x.rollOn(3, 50);
        Due.is("column(), up to a wall", x.column(), 3);
        x.turnWall(3, 0);
        x.rollOn(0, 50);
        Due.is("row(), up to a wall", x.row(), 1);
        Due.is("rolls()", x.rolls(), 14);
    }

    private static void untilSoManyAreMade() {
        for (int most = 1; most <= 7; most++) {
            PaintedDie x = State.board(7, 7);
            x.rollOn(1, most);
            Due.is("column() behind rollOn(1, " + most + ")", x.column(), most < 6 ? most : 6);
            Due.is("rolls()", x.rolls(), most < 6 ? most : 6);
            x.rollOn(2, most);
            Due.is("row() behind rollOn(2, " + most + ")", x.row(), most < 6 ? most : 6);
        }
    }

    /** Fewer than there is room for, just as many, one more, and the most that can be asked for. */
    private static void howManyAreMade() {
        int[][] asked = {{1, 1}, {5, 5}, {6, 6}, {7, 6}, {50, 6}};
        for (int[] ask : asked) {
            PaintedDie x = State.board(7, 7);
            for (int direction : new int[] {1, 2, 3, 0}) {
                x.put(direction == 3 ? 6 : 0, direction == 0 ? 6 : 0);
                Due.is("rollOn(" + direction + ", " + ask[0] + ")", x.rollOn(direction, ask[0]), ask[1]);
            }
        }
    }

    private static void noneCanBeMade() {
        for (int most : new int[] {1, 50}) {
            noneIsMade(State.FRESH, 0, most);
            noneIsMade(State.FRESH, 3, most);
            noneIsMade(State.BESIDE_WALLS, 0, most);
            noneIsMade(State.BESIDE_WALLS, 1, most);
            noneIsMade(State.FULL, 1, most);
            noneIsMade(State.FULL, 2, most);
            for (int direction = 0; direction <= 3; direction++) {
                noneIsMade(State.SHUT_IN, direction, most);
            }
        }
    }

    private static void noneIsMade(State state, int direction, int most) {
        PaintedDie x = state.made();
        Due.is(state + ", rollOn(" + direction + ", " + most + ")", x.rollOn(direction, most), 0);
        Due.is(state + ", what there is behind it", View.of(x), state.view());
    }

    private static void numbersOfRollsThatAreNone() {
        for (int direction = 0; direction <= 3; direction++) {
            Refused.lastArgument(Refused.ARGUMENT, 1, 50, "rollOn", direction);
        }
    }
}
