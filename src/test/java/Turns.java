/** Objects whose dice are turned in each of the 24 ways that there are, with room for two rolls to all sides. */
final class Turns {
    static final int COUNT = 24;

    /** Rolls behind which the same face is on top: turned not at all, by a quarter, by a half, by a quarter back. */
    private static final int[][] SPINS = {{}, {1, 2, 3}, {1, 2, 3, 1, 2, 3}, {3, 2, 1}};
    private static final int[][] TIPS = {{}, {0}, {1}, {2}, {3}, {1, 1}};

    private Turns() {
    }

    /** Number 0 is turned as at first. */
    static PaintedDie made(int number) {
        PaintedDie x = State.board(7, 7);
        x.put(3, 2);
        for (int direction : SPINS[number % SPINS.length]) {
            x.roll(direction);
        }
        for (int direction : TIPS[number / SPINS.length]) {
            x.roll(direction);
        }
        return x;
    }

    /** The faces to the north, east, south and west, that on top and that at the bottom. */
    static String facesOf(PaintedDie x) {
        return "" + x.faceTo(0) + x.faceTo(1) + x.faceTo(2) + x.faceTo(3) + x.top() + x.bottom();
    }
}
