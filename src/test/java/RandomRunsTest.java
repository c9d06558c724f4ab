import java.util.ArrayList;
import java.util.List;
import java.util.Random;

/** Runs of 512 calls of every kind, right and wrong ones, on a fresh object and on the model. */
public final class RandomRunsTest {
    private static final int RUNS = 400;
    private static final int CALLS = 512;
    private static final int[] FAR_OUT = {Integer.MIN_VALUE, Integer.MIN_VALUE + 1, -100, 100, 256,
        1 << 16, Integer.MAX_VALUE - 1, Integer.MAX_VALUE};

    private final Random random;
    private final Model model = new Model();
    private final int wallsIn10;
    private final int paintIn10;

    private RandomRunsTest(long seed) {
        random = new Random(seed);
        wallsIn10 = random.nextInt(5);
        paintIn10 = random.nextInt(4);
    }

    public static void main(String[] args) {
        int wrongRuns = 0;
        for (int run = 0; run < RUNS && wrongRuns < 5; run++) {
            wrongRuns += new RandomRunsTest(run).isAsDue(run) ? 0 : 1;
        }
        Due.is("runs that went wrong", wrongRuns, 0);
        Due.end();
    }

    private boolean isAsDue(int run) {
        PaintedDie die = new PaintedDie();
        List<Ask> made = new ArrayList<>();
        for (int call = 0; call < CALLS; call++) {
            Ask ask = call == CALLS - 1 ? new Ask("digest") : anAsk();
            made.add(ask);
            Object due = ask.of(model);
            Object got = ask.of(die);
            boolean isDue = due.equals(got);
            Due.is(isDue ? "" : "run " + run + ": " + changesIn(made) + ask, got, due);
            if (!isDue) {
                return false;
            }
        }
        return true;
    }

    /** What could have changed the object, for who looks for the cause. */
    private static String changesIn(List<Ask> made) {
        StringBuilder text = new StringBuilder();
        for (Ask ask : made.subList(0, made.size() - 1)) {
            if (List.of("newBoard", "turnWall", "setColour", "addPaint", "put", "roll", "rollOn").contains(ask.name())) {
                text.append(ask).append(' ');
            }
        }
        return text.toString();
    }

    private Ask anAsk() {
        int die = random.nextInt(100);
        if (die < 45) {
            return change();
        }
        return die < 75 ? question() : search();
    }

    private Ask change() {
        int die = random.nextInt(100);
        if (die < 2) {
            return new Ask("newBoard", within(2, 7), within(2, 7));
        }
        if (die < 6) {
            return new Ask("setColour", within(1, 6), within(1, 9));
        }
        if (die < 12) {
            return new Ask("put", aColumn(), aRow());
        }
        if (die < 12 + 8 * wallsIn10) {
            return new Ask("turnWall", aColumn(), aRow());
        }
        if (die < 46 + 8 * paintIn10) {
            return new Ask("addPaint", within(1, 6), random.nextInt(3) > 0 ? within(1, 4) : within(1, 20));
        }
        return random.nextInt(4) > 0 ? new Ask("roll", within(0, 3)) : new Ask("rollOn", within(0, 3), aLength());
    }

    private int aLength() {
        return random.nextInt(3) > 0 ? within(1, 4) : within(1, 50);
    }

    private Ask question() {
        return switch (random.nextInt(17)) {
            case 0 -> new Ask("column");
            case 1 -> new Ask("row");
            case 2 -> new Ask("top");
            case 3 -> new Ask("bottom");
            case 4 -> new Ask("faceTo", within(0, 3));
            case 5 -> new Ask("isAsAtFirst");
            case 6 -> new Ask("colourOf", within(1, 6));
            case 7 -> new Ask("paintOf", within(1, 6));
            case 8 -> new Ask("isWall", aColumn(), aRow());
            case 9 -> new Ask("printAt", aColumn(), aRow());
            case 10 -> new Ask("canRoll", within(0, 3));
            case 11 -> new Ask("width");
            case 12 -> new Ask("height");
            case 13 -> new Ask("walls");
            case 14 -> new Ask("rolls");
            case 15 -> new Ask("prints");
            default -> new Ask("cellsWith", within(0, 9));
        };
    }

    private Ask search() {
        return switch (random.nextInt(10)) {
            case 0 -> new Ask("fewestRolls", aColumn(), aRow());
            case 1 -> new Ask("fewestRollsWithTop", aColumn(), aRow(), within(1, 6));
            case 2 -> new Ask("firstRoll", aColumn(), aRow(), within(1, 6));
            case 3 -> new Ask("topsAt", aColumn(), aRow());
            case 4 -> new Ask("cellsWithinReach");
            case 5 -> new Ask("waysToLie");
            case 6 -> new Ask("cellsBehind", within(0, 20));
            case 7 -> random.nextInt(3) > 0 ? new Ask("meanPaint") : new Ask("bestPut", within(1, 6));
            case 8 -> new Ask("meanPaint");
            default -> random.nextInt(4) > 0 ? new Ask("waysToLie") : new Ask("digest");
        };
    }

    private int aColumn() {
        return within(0, model.width() - 1);
    }

    private int aRow() {
        return within(0, model.height() - 1);
    }

    /** A number from low to high; now and then one just outside, or far outside. */
    private int within(int low, int high) {
        int die = random.nextInt(60);
        if (die == 0) {
            return random.nextBoolean() ? low - 1 : high + 1;
        }
        if (die == 1) {
            return FAR_OUT[random.nextInt(FAR_OUT.length)];
        }
        return low + random.nextInt(high - low + 1);
    }
}
