import java.io.IOException;

/** Every sentence of the document that promises something has a test of its own, and holds. */
public final class SentencesTest {
    private SentencesTest() {
    }

    public static void main(String[] args) throws IOException {
        Sentences sentences = new Sentences();
        DescriptionSentences.addTo(sentences);
        StateSentences.addTo(sentences);
        RecordSentences.addTo(sentences);
        TemplateSentences.addTo(sentences);
        SettingSentences.addTo(sentences);
        RunSentences.addTo(sentences);
        UndoSentences.addTo(sentences);
        sentences.end();
    }
}
