/** Promises 9 to 25, sentence by sentence, at their boundaries. */
final class WhatThereIsSentences {
    private WhatThereIsSentences() {
    }

    static void run() {
        placeAndTurn();
        facesAndCells();
        counts();
    }

    private static void placeAndTurn() {
        Sentence.holds(9, "Returns the column of the die.", WhatThereIsSentences::columnOfTheDie);
        Sentence.holds(10, "Returns its row.", WhatThereIsSentences::rowOfTheDie);
        Sentence.holds(11, "Returns the face on top.", WhatThereIsSentences::faceOnTop);
        Sentence.holds(12, "Returns the face at the bottom.", WhatThereIsSentences::faceAtTheBottom);
        Sentence.holds(13, "Returns the face on this side.", WhatThereIsSentences::facesOnTheSides);
        Sentence.holds(13, "Throws `IndexOutOfBoundsException` if direction is not 0 to 3",
                () -> Refused.firstArgument(Refused.OUTSIDE, 0, 3, "faceTo"));
        Sentence.holds(14, "Returns whether it is turned as at first.", WhatThereIsSentences::turnedAsAtFirst);
    }

    private static void facesAndCells() {
        Sentence.holds(15, "Returns its colour.", WhatThereIsSentences::colourOfEachFace);
        Sentence.holds(15, "Throws `IndexOutOfBoundsException` if face is not 1 to 6",
                () -> Refused.firstArgument(Refused.OUTSIDE, 1, 6, "colourOf"));
        Sentence.holds(16, "Returns how much paint it has.", WhatThereIsSentences::paintOfEachFace);
        Sentence.holds(16, "Throws `IndexOutOfBoundsException` if face is not 1 to 6",
                () -> Refused.firstArgument(Refused.OUTSIDE, 1, 6, "paintOf"));
        Sentence.holds(17, "Returns whether the cell there is a wall.", WhatThereIsSentences::wallsAtTheEdges);
        Sentence.holds(17, "Throws `IndexOutOfBoundsException` if there is no such cell", () -> Refused.cellsOutside("isWall"));
        Sentence.holds(18, "Returns the colour of its print", WhatThereIsSentences::printsAtTheEdges);
        Sentence.holds(18, "0 for none.", WhatThereIsSentences::noneWherePaintIsLacking);
        Sentence.holds(18, "Throws `IndexOutOfBoundsException` if there is no such cell", () -> Refused.cellsOutside("printAt"));
        Sentence.holds(19, "Returns whether the die can be rolled in it now.", WhatThereIsSentences::canBeRolledNow);
        Sentence.holds(19, "Throws `IndexOutOfBoundsException` if direction is not 0 to 3",
                () -> Refused.firstArgument(Refused.OUTSIDE, 0, 3, "canRoll"));
    }

    private static void counts() {
        Sentence.holds(20, "Returns how many cells wide the board is.", WhatThereIsSentences::widths);
        Sentence.holds(21, "Returns how many cells high it is.", WhatThereIsSentences::heights);
        Sentence.holds(22, "Returns how many cells are walls.", WhatThereIsSentences::noneToAllButOne);
        Sentence.holds(23, "Returns how many rolls were made on this board.", WhatThereIsSentences::rollsThatWereMade);
        Sentence.holds(24, "Returns how often something was printed on this board.", WhatThereIsSentences::howOftenPrinted);
        Sentence.holds(25, "- `colour`: a colour, 0 for none", WhatThereIsSentences::cellsWithNone);
        Sentence.holds(25, "Returns how many cells have it as a print.", WhatThereIsSentences::cellsWithEachColour);
        Sentence.holds(25, "Throws `IndexOutOfBoundsException` if colour is not 0 to 9",
                () -> Refused.firstArgument(Refused.OUTSIDE, 0, 9, "cellsWith"));
    }

    private static void columnOfTheDie() {
        for (int w = 2; w <= 7; w++) {
            PaintedDie x = State.board(w, 2);
            Due.is("column(), the least", x.column(), 0);
            x.rollOn(1, 50);
            Due.is("column(), the greatest of " + w, x.column(), w - 1);
            x.roll(2);
            Due.is("column(), a row farther", x.column(), w - 1);
        }
    }

    private static void rowOfTheDie() {
        for (int h = 2; h <= 7; h++) {
            PaintedDie x = State.board(2, h);
            Due.is("row(), the least", x.row(), 0);
            x.rollOn(2, 50);
            Due.is("row(), the greatest of " + h, x.row(), h - 1);
            x.roll(1);
            Due.is("row(), a column farther", x.row(), h - 1);
        }
    }

    private static void faceOnTop() {
        int[] due = {1, 5, 4, 2, 3, 6};
        for (int number = 0; number < Turns.COUNT; number += 4) {
            Due.is("top() behind rolls number " + number, Turns.made(number).top(), due[number / 4]);
        }
        for (int spin = 0; spin < 4; spin++) {
            Due.is("top(), turned like a top", Turns.made(spin).top(), 1);
        }
    }

    private static void faceAtTheBottom() {
        int[] due = {6, 2, 3, 5, 4, 1};
        for (int number = 0; number < Turns.COUNT; number += 4) {
            Due.is("bottom() behind rolls number " + number, Turns.made(number).bottom(), due[number / 4]);
        }
        for (int spin = 0; spin < 4; spin++) {
            Due.is("bottom(), turned like a top", Turns.made(spin).bottom(), 6);
        }
    }

    private static void facesOnTheSides() {
        String[] turned = {"2354", "3542", "5423", "4235"};
        for (int spin = 0; spin < 4; spin++) {
            for (int direction = 0; direction <= 3; direction++) {
                int due = turned[spin].charAt(direction) - '0';
                Due.is("faceTo(" + direction + ") with 1 on top", Turns.made(spin).faceTo(direction), due);
            }
        }
    }

    private static void turnedAsAtFirst() {
        for (int number = 0; number < Turns.COUNT; number++) {
            PaintedDie x = Turns.made(number);
            Due.is(Turns.facesOf(x) + ", isAsAtFirst()", x.isAsAtFirst(), number == 0);
            x.put(0, 0);
            Due.is("isAsAtFirst() behind put", x.isAsAtFirst(), true);
        }
        PaintedDie y = new PaintedDie();
        y.roll(1);
        Due.is("isAsAtFirst(), 2 to the north, but 4 on top", y.isAsAtFirst(), false);
        y.roll(3);
        Due.is("isAsAtFirst(), rolled back", y.isAsAtFirst(), true);
    }

    private static void colourOfEachFace() {
        PaintedDie x = new PaintedDie();
        for (int face = 1; face <= 6; face++) {
            for (int colour : new int[] {1, 9}) {
                x.setColour(face, colour);
                for (int other = 1; other <= 6; other++) {
                    int due = other < face ? 9 : other == face ? colour : other;
                    Due.is("colourOf(" + other + ")", x.colourOf(other), due);
                }
            }
        }
    }

    private static void paintOfEachFace() {
        PaintedDie x = new PaintedDie();
        for (int face = 1; face <= 6; face++) {
            Due.is("paintOf(" + face + "), none", x.paintOf(face), 0);
            x.addPaint(face, 1);
            Due.is("paintOf(" + face + "), the least", x.paintOf(face), 1);
            x.addPaint(face, 20);
            Due.is("paintOf(" + face + "), the most", x.paintOf(face), 20);
        }
        PaintedDie y = new PaintedDie();
        y.addPaint(3, 1);
        y.roll(1);
        Due.is("paintOf(3), the last is used", y.paintOf(3), 0);
    }

    private static void wallsAtTheEdges() {
        int[][] corners = {{3, 0}, {0, 5}, {3, 5}, {0, 0}};
        for (int[] corner : corners) {
            PaintedDie x = State.board(4, 6);
            x.put(1, 1);
            x.turnWall(corner[0], corner[1]);
            for (int column = 0; column < 4; column++) {
                for (int row = 0; row < 6; row++) {
                    boolean due = column == corner[0] && row == corner[1];
                    Due.is("isWall(" + column + ", " + row + ")", x.isWall(column, row), due);
                }
            }
        }
        Due.is("isWall(1, 1), where the die lies", State.SHUT_IN.made().isWall(1, 1), false);
    }

    /** The die is rolled into every corner, and only there it has paint. */
    private static void printsAtTheEdges() {
        int[][] corners = {{0, 0}, {3, 0}, {0, 5}, {3, 5}};
        for (int[] corner : corners) {
            PaintedDie x = State.board(4, 6);
            int inwards = corner[0] == 0 ? 1 : 3;
            x.put(corner[0], corner[1]);
            x.roll(inwards);
            x.addPaint(6, 1);
            x.setColour(6, 9);
            x.roll((inwards + 2) % 4);
            for (int column = 0; column < 4; column++) {
                for (int row = 0; row < 6; row++) {
                    boolean isPrinted = column == corner[0] && row == corner[1];
                    Due.is("printAt(" + column + ", " + row + ")", x.printAt(column, row), isPrinted ? 9 : 0);
                }
            }
        }
    }

    private static void noneWherePaintIsLacking() {
        PaintedDie x = new PaintedDie();
        x.addPaint(1, 20);
        x.rollOn(1, 4);
        for (int column = 0; column < 5; column++) {
            Due.is("printAt(" + column + ", 0)", x.printAt(column, 0), column == 2 ? 1 : 0);
        }
    }

    private static void canBeRolledNow() {
        for (int w = 2; w <= 7; w++) {
            for (int h = 2; h <= 7; h++) {
                PaintedDie x = State.board(w, h);
                for (int row = 0; row < h; row++) {
                    x.put(0, row);
                    can(x, row > 0, true, row < h - 1, false);
                    x.put(w - 1, row);
                    can(x, row > 0, false, row < h - 1, true);
                }
            }
        }
        can(State.BESIDE_WALLS.made(), false, false, true, true);
        can(State.SHUT_IN.made(), false, false, false, false);
        can(State.FULL.made(), true, false, false, true);
        PaintedDie y = State.SHUT_IN.made();
        y.turnWall(1, 0);
        can(y, true, false, false, false);
        y.turnWall(0, 1);
        can(y, true, false, false, true);
    }

    private static void can(PaintedDie x, boolean... due) {
        for (int direction = 0; direction <= 3; direction++) {
            String call = "canRoll(" + direction + ") at " + x.column() + ", " + x.row();
            Due.is(call, x.canRoll(direction), due[direction]);
        }
    }

    private static void widths() {
        PaintedDie x = new PaintedDie();
        Due.is("width() at first", x.width(), 5);
        for (int w = 2; w <= 7; w++) {
            x.newBoard(w, 9 - w);
            Due.is("width()", x.width(), w);
        }
        Due.isThrown("newBoard(8, 2)", IllegalArgumentException.class, () -> x.newBoard(8, 2));
        Due.is("width(), as before", x.width(), 7);
    }

    private static void heights() {
        PaintedDie x = new PaintedDie();
        Due.is("height() at first", x.height(), 5);
        for (int h = 2; h <= 7; h++) {
            x.newBoard(9 - h, h);
            Due.is("height()", x.height(), h);
        }
        Due.isThrown("newBoard(2, 8)", IllegalArgumentException.class, () -> x.newBoard(2, 8));
        Due.is("height(), as before", x.height(), 7);
    }

    private static void noneToAllButOne() {
        PaintedDie x = State.board(7, 7);
        Due.is("walls(), none", x.walls(), 0);
        for (int cell = 1; cell < 49; cell++) {
            x.turnWall(cell % 7, cell / 7);
            Due.is("walls()", x.walls(), cell);
        }
        Due.isThrown("turnWall under the die", IllegalStateException.class, () -> x.turnWall(0, 0));
        Due.is("walls(), all but one", x.walls(), 48);
        for (int cell = 1; cell < 49; cell++) {
            x.turnWall(cell % 7, cell / 7);
            Due.is("walls()", x.walls(), 48 - cell);
        }
    }

    private static void rollsThatWereMade() {
        PaintedDie x = State.board(7, 2);
        Due.is("rolls(), none", x.rolls(), 0);
        Due.isThrown("roll(0)", IllegalStateException.class, () -> x.roll(0));
        Due.is("rolls() behind one refused", x.rolls(), 0);
        x.rollOn(3, 50);
        Due.is("rolls() behind none of 50", x.rolls(), 0);
        x.roll(1);
        Due.is("rolls() behind one without paint", x.rolls(), 1);
        x.rollOn(1, 50);
        Due.is("rolls() behind five of 50", x.rolls(), 6);
        x.put(0, 0);
        Due.is("rolls() behind put", x.rolls(), 6);
        for (int time = 1; time <= 400; time++) {
            x.rollOn(time % 2 == 0 ? 3 : 1, 6);
        }
        Due.is("rolls() behind 400 times six more", x.rolls(), 2406);
        x.newBoard(7, 2);
        Due.is("rolls() on a new board", x.rolls(), 0);
    }

    private static void howOftenPrinted() {
        PaintedDie x = new PaintedDie();
        x.roll(1);
        Due.is("prints() without paint", x.prints(), 0);
        x.addPaint(6, 1);
        x.roll(3);
        Due.is("prints() with the least", x.prints(), 1);
        x.roll(1);
        x.roll(3);
        Due.is("prints() when it is used up", x.prints(), 1);
        for (int time = 1; time <= 8; time++) {
            x.addPaint(3, 20);
            for (int print = 1; print <= 20; print++) {
                x.roll(1);
                x.roll(3);
                Due.is("prints() on the same cell, with the same colour", x.prints(), 20 * (time - 1) + print + 1);
            }
        }
        x.newBoard(5, 5);
        Due.is("prints() on a new board", x.prints(), 0);
    }

    private static void cellsWithNone() {
        for (int w = 2; w <= 7; w++) {
            for (int h = 2; h <= 7; h++) {
                Due.is("cellsWith(0), an empty board", State.board(w, h).cellsWith(0), w * h);
            }
        }
        Due.is("cellsWith(0), a full board", State.FULL.made().cellsWith(0), 0);
        PaintedDie x = BoardAndDieSentences.fullOfWalls();
        Due.is("cellsWith(0), walls without prints", x.cellsWith(0), 49);
    }

    private static void cellsWithEachColour() {
        for (int due = 1; due <= 9; due++) {
            PaintedDie x = State.board(7, 2);
            x.setColour(3, due);
            x.addPaint(3, 20);
            x.rollOn(1, 6);
            for (int colour = 1; colour <= 9; colour++) {
                Due.is("cellsWith(" + colour + ")", x.cellsWith(colour), colour == due ? 2 : 0);
            }
        }
        PaintedDie y = State.FULL.made();
        for (int colour = 0; colour <= 9; colour++) {
            Due.is("cellsWith(" + colour + "), a full board", y.cellsWith(colour), colour == 9 ? 49 : 0);
        }
        y.turnWall(0, 0);
        Due.is("cellsWith(9), one of them a wall", y.cellsWith(9), 49);
    }
}
