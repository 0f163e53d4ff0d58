import java.io.IOException;
import java.nio.file.Files;
import java.nio.file.Path;

/** Every sentence of the document that names a boundary case, with a test of its own. */
public final class SentencesTest {
    public static void main(String[] args) throws IOException {
        Sentences all = new Sentences();
        RoleSentences.tests(all);
        LinkSentences.tests(all);
        MessageSentences.tests(all);
        EntrySentences.tests(all);
        TreeSentences.tests(all);
        TimeSentences.tests(all);
        RefusalSentences.tests(all);
        lookAtDocument(all, Path.of(System.getProperty("document", "../shared/DOC.md")));
        all.end();
    }

    /** No quote may be of words that the document does not have, and no words of it may be left without one. */
    private static void lookAtDocument(Sentences all, Path file) throws IOException {
        if (!Files.isReadable(file)) {
            System.out.println("SentencesTest: no document at " + file + ", the quotes are not looked up");
            return;
        }
        Document document = new Document(file);
        all.under("The document");
        all.test("quotes", due -> {
            for (Sentences.Quote quote : all.quotes().subList(0, all.quotes().size() - 1)) {
                due.yes("has under " + quote.heading() + " the words " + quote.words(), document.has(quote));
            }
            for (String words : document.withoutQuote(all.quotes())) {
                due.fail("no test quotes " + words);
            }
        });
    }
}
