import java.io.IOException;
import java.nio.file.Path;

/** Promises 1 to 35 and the terms: each sentence that names a boundary case has a test of its own. */
public final class SentencesTest {
    private static final Path DOCUMENT = Path.of("..", "shared", "DOC.md");

    private SentencesTest() {
    }

    public static void main(String[] args) throws IOException {
        TermsSentences.run();
        BoardAndDieSentences.run();
        WhatThereIsSentences.run();
        WhatWouldBeSentences.run();
        Sentence.standIn(DOCUMENT);
        Due.end();
    }
}
