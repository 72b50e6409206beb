import java.io.IOException;
import java.nio.file.Path;

/** For each sentence of the document that names a boundary case, a test of its own. */
public final class SentencesTest {
    private SentencesTest() {
    }

    public static void main(String[] args) throws IOException {
        Sentences sentences = new Sentences(Path.of(System.getProperty("document", "../shared/DOC.md")));
        new TermsSentences(sentences).show();
        new TextSentences(sentences).show();
        new RefusalSentences(sentences).show();
        new TellingSentences(sentences).show();
        new ActionSentences(sentences).show();
        new WhatIfSentences(sentences).show();
        new ScriptSentences(sentences).show();
        sentences.end();
    }
}
