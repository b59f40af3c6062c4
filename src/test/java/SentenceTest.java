import java.io.IOException;
import java.nio.file.Path;

/** Sentence by sentence of the document: what it says at its bounds, and at both sides of each. */
public final class SentenceTest {
    public static void main(String[] args) throws IOException {
        Sentences sentences = new Sentences(Path.of(System.getProperty("project"), "../shared/DOC.md"));
        RefusalSentences.tell(sentences);
        LandSentences.tell(sentences);
        DaySentences.tell(sentences);
        PaperSentences.tell(sentences);
        ReadingSentences.tell(sentences);
        SheetSentences.tell(sentences);
        PartSentences.tell(sentences);
        sentences.end();
    }
}
