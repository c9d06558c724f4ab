import java.util.ArrayList;
import java.util.List;
import java.util.Random;

/**
 * On boards of every size, with few and with many walls: every question about what there is and
 * what would be, about every cell, face, direction and number of rolls, against the model.
 */
public final class EveryAnswerTest {
    private static final int MOST_CALLS = 512;
    private static final int ROUNDS = 3;

    private EveryAnswerTest() {
    }

    public static void main(String[] args) {
        for (int round = 0; round < ROUNDS; round++) {
            for (int w = 2; w <= 7; w++) {
                for (int h = 2; h <= 7; h++) {
                    askAll(changes(w, h, new Random(1000L * round + 10 * w + h)));
                }
            }
        }
        Due.end();
    }

    /** Asks in as many fresh objects as are needed to keep each within its calls. */
    private static void askAll(List<Ask> changes) {
        Model model = new Model();
        for (Ask change : changes) {
            change.of(model);
        }
        PaintedDie die = null;
        int calls = MOST_CALLS;
        for (Ask question : questions(model)) {
            if (calls == MOST_CALLS) {
                die = new PaintedDie();
                for (Ask change : changes) {
                    change.of(die);
                }
                calls = changes.size();
            }
            Due.is(changes + " " + question, question.of(die), question.of(model));
            calls++;
        }
    }

    private static List<Ask> changes(int w, int h, Random random) {
        List<Ask> made = new ArrayList<>();
        made.add(new Ask("newBoard", w, h));
        int walls = random.nextInt(w * h / 2 + 1);
        for (int i = 0; i < walls; i++) {
            made.add(new Ask("turnWall", random.nextInt(w), random.nextInt(h)));
        }
        made.add(new Ask("put", random.nextInt(w), random.nextInt(h)));
        for (int face = 1; face <= 6; face++) {
            made.add(new Ask("addPaint", face, 1 + random.nextInt(20)));
            made.add(new Ask("setColour", face, 1 + random.nextInt(9)));
        }
        for (int i = 0; i < 30; i++) {
            made.add(new Ask("roll", random.nextInt(4)));
        }
        return made;
    }

    private static List<Ask> questions(Model model) {
        List<Ask> asked = new ArrayList<>();
        for (String name : List.of("column", "row", "top", "bottom", "isAsAtFirst", "width", "height", "walls",
                "rolls", "prints", "cellsWithinReach", "waysToLie", "meanPaint", "digest")) {
            asked.add(new Ask(name));
        }
        each(asked, "faceTo", 0, 3);
        each(asked, "canRoll", 0, 3);
        each(asked, "colourOf", 1, 6);
        each(asked, "paintOf", 1, 6);
        each(asked, "cellsWith", 0, 9);
        each(asked, "cellsBehind", 0, 20);
        each(asked, "bestPut", 1, 6);
        for (int column = 0; column < model.width(); column++) {
            for (int row = 0; row < model.height(); row++) {
                asked.add(new Ask("isWall", column, row));
                asked.add(new Ask("printAt", column, row));
                asked.add(new Ask("fewestRolls", column, row));
                asked.add(new Ask("topsAt", column, row));
                for (int face = 1; face <= 6; face++) {
                    asked.add(new Ask("fewestRollsWithTop", column, row, face));
                    asked.add(new Ask("firstRoll", column, row, face));
                }
            }
        }
        return asked;
    }

    private static void each(List<Ask> asked, String name, int first, int last) {
        for (int x = first; x <= last; x++) {
            asked.add(new Ask(name, x));
        }
    }
}
