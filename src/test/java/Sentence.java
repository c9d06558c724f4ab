import java.io.IOException;
import java.nio.file.Files;
import java.nio.file.Path;
import java.util.ArrayList;
import java.util.List;
import java.util.Map;
import java.util.TreeMap;

/** A test of one sentence of the document: it names the promise and quotes the sentence, or a part of it. */
final class Sentence {
    /** In the place of a promise's number: what the document says ahead of promise 1. */
    static final int TERMS = 0;

    private static final Map<Integer, List<String>> QUOTED = new TreeMap<>();

    private Sentence() {
    }

    static void holds(int promise, String words, Runnable test) {
        QUOTED.computeIfAbsent(promise, p -> new ArrayList<>()).add(words);
        Due.about((promise == TERMS ? "terms" : "promise " + promise) + ", \"" + words + "\": ");
        int before = Due.compared();
        try {
            test.run();
        } catch (RuntimeException e) {
            Due.is("a call that is due to answer", e.toString(), "an answer");
        }
        Due.is("whether answers are compared", Due.compared() > before, true);
        Due.about("");
    }

    /** Every quotation stands in the document, and no line of a promise is without one. */
    static void standIn(Path document) throws IOException {
        Map<Integer, String> sections = sectionsOf(Files.readString(document));
        for (int promise : QUOTED.keySet()) {
            for (String words : QUOTED.get(promise)) {
                String section = sections.getOrDefault(promise, "");
                Due.is("whether " + promise + " says \"" + words + "\"", section.contains(words), true);
            }
        }
        for (int promise : sections.keySet()) {
            for (String line : promise == TERMS ? List.<String>of() : linesOf(sections.get(promise))) {
                Due.is("whether promise " + promise + " has a test of \"" + line + "\"", isQuoted(promise, line), true);
            }
        }
    }

    private static boolean isQuoted(int promise, String line) {
        return QUOTED.getOrDefault(promise, List.of()).stream().anyMatch(line::contains);
    }

    private static Map<Integer, String> sectionsOf(String document) {
        Map<Integer, String> sections = new TreeMap<>();
        for (String section : document.split("(?m)^## ")) {
            if (section.startsWith("Promise ")) {
                String number = section.substring("Promise ".length(), section.indexOf(':'));
                sections.put(Integer.parseInt(number), section);
            } else {
                sections.merge(TERMS, section, String::concat);
            }
        }
        return sections;
    }

    /** The lines of a promise without its heading, the face of the method and the names of its arguments. */
    private static List<String> linesOf(String section) {
        List<String> lines = new ArrayList<>();
        for (String line : section.substring(section.indexOf('\n')).split("\n")) {
            String words = line.startsWith("`") ? line.substring(line.indexOf("`: ") + 3) : line;
            if (!words.isBlank() && !words.startsWith("- `")) {
                lines.add(words);
            }
        }
        return lines;
    }
}
