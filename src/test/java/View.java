import java.util.ArrayList;
import java.util.List;

/** All that an object shows of what there is, as one text: some 140 calls on the greatest board. */
final class View {
    /** A side longer than any that there may be is not walked along to its end. */
    private static final int MOST_CELLS_SEEN = 8;

    private View() {
    }

    static String of(PaintedDie x) {
        List<Ask> seen = new ArrayList<>();
        for (String name : List.of("width", "height", "walls", "rolls", "prints", "column", "row",
                "top", "bottom", "isAsAtFirst", "meanPaint", "digest")) {
            seen.add(new Ask(name));
        }
        for (int direction = 0; direction < 4; direction++) {
            seen.add(new Ask("faceTo", direction));
            seen.add(new Ask("canRoll", direction));
        }
        for (int face = 1; face <= 6; face++) {
            seen.add(new Ask("colourOf", face));
            seen.add(new Ask("paintOf", face));
        }
        for (int colour = 0; colour <= 9; colour++) {
            seen.add(new Ask("cellsWith", colour));
        }
        int height = Math.min(x.height(), MOST_CELLS_SEEN);
        int width = Math.min(x.width(), MOST_CELLS_SEEN);
        for (int row = 0; row < height; row++) {
            for (int column = 0; column < width; column++) {
                seen.add(new Ask("isWall", column, row));
                seen.add(new Ask("printAt", column, row));
            }
        }
        StringBuilder text = new StringBuilder();
        for (Ask ask : seen) {
            text.append(ask).append(" = ").append(ask.of(x)).append("; ");
        }
        return text.toString();
    }
}
