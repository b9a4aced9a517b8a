import java.io.IOException;

/** Each sentence of the document that names a boundary case, promise by promise. */
public final class SentencesTest {
    public static void main(String[] args) throws IOException {
        Sentences s = new Sentences(Document.read());
        new PersonsSentences(s).test();
        new ActsSentences(s).test();
        new SharesSentences(s).test();
        new LicencesSentences(s).test();
        new LinesSentences(s).test();
        s.close();
    }
}
