import java.io.IOException;
import java.nio.file.Files;
import java.nio.file.Path;
import java.util.Arrays;
import java.util.regex.Matcher;
import java.util.regex.Pattern;

/** The example in README.md: each call of it answers what stands behind it, or throws it. */
public final class ReadmeTest {
    private static final Pattern CALL = Pattern.compile("(?m)^die\\.(\\w+)\\(([\\d, ]*)\\); +// ([^:\n]+): ");
    private static final Pattern ANY_CALL = Pattern.compile("(?m)^die\\.");

    private ReadmeTest() {
    }

    public static void main(String[] args) throws IOException {
        String text = Files.readString(Path.of("README.md"));
        PaintedDie die = new PaintedDie();
        int calls = 0;
        Matcher call = CALL.matcher(text);
        while (call.find()) {
            Ask ask = new Ask(call.group(1), numbersIn(call.group(2)));
            Due.is(ask.toString(), ask.of(die).toString().replace("java.lang.", ""), call.group(3));
            calls++;
        }
        Due.is("calls that tell their answer", (long) calls, ANY_CALL.matcher(text).results().count());
        Due.is("whether there is a call", calls > 0, true);
        Due.end();
    }

    private static int[] numbersIn(String list) {
        return Arrays.stream(list.split(",")).map(String::trim).filter(number -> !number.isEmpty())
                .mapToInt(Integer::parseInt).toArray();
    }
}
