/** Objects that differ as much as they can, for what must hold in each of them. */
enum State {
    /** As the constructor makes it: no wall, no print, no paint, 25 cells. */
    FRESH {
        @Override
        PaintedDie made() {
            return new PaintedDie();
        }
    },

    /** 4 cells wide and 6 high, the die at column 2, row 1, a wall to the north and one to the east of it. */
    BESIDE_WALLS {
        @Override
        PaintedDie made() {
            PaintedDie x = new PaintedDie();
            x.newBoard(4, 6);
            x.addPaint(2, 7);
            x.addPaint(3, 3);
            x.addPaint(5, 20);
            x.setColour(3, 9);
            x.turnWall(3, 1);
            x.turnWall(2, 0);
            x.roll(2);
            x.rollOn(1, 2);
            return x;
        }
    },

    /** The least board, the die in its last cell and no cell without a wall beside it. */
    SHUT_IN {
        @Override
        PaintedDie made() {
            PaintedDie x = new PaintedDie();
            x.newBoard(2, 2);
            x.addPaint(3, 1);
            x.addPaint(2, 2);
            x.roll(1);
            x.roll(2);
            x.turnWall(1, 0);
            x.turnWall(0, 1);
            return x;
        }
    },

    /** The greatest board, the die in its last cell, every cell printed with 9, all the paint that there can be. */
    FULL {
        @Override
        PaintedDie made() {
            PaintedDie x = new PaintedDie();
            x.newBoard(7, 7);
            for (int face = 1; face <= 6; face++) {
                x.setColour(face, 9);
            }
            fill(x);
            x.roll(1);
            x.roll(3);
            for (int row = 0; row < 7; row++) {
                x.rollOn(row % 2 == 0 ? 1 : 3, 6);
                fill(x);
                if (row < 6) {
                    x.roll(2);
                }
            }
            fill(x);
            return x;
        }
    };

    private String view;

    abstract PaintedDie made();

    /** What such an object shows. */
    String view() {
        if (view == null) {
            view = View.of(made());
        }
        return view;
    }

    static PaintedDie board(int w, int h) {
        PaintedDie x = new PaintedDie();
        x.newBoard(w, h);
        return x;
    }

    private static void fill(PaintedDie x) {
        for (int face = 1; face <= 6; face++) {
            x.addPaint(face, 20);
        }
    }
}
