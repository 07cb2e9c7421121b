import java.nio.file.Path;
import java.util.ArrayList;
import java.util.List;

/**
 * A test of its own for each sentence of the document that tells a bound or an empty case; and whether there is none
 * that has no test. With an argument, just the tests are run whose words hold it.
 */
public final class SentencesTest {
    private static final String NO_TEST = "\n";

    private SentencesTest() {
    }

    private static Sentences[] all(Document document, String only) {
        return new Sentences[] {new DeskSentences(document, only), new RoundSentences(document, only),
            new SheetSentences(document, only), new PaperSentences(document, only), new RuleSentences(document, only),
            new ChainSentences(document, only), new ThrowSentences(document, only)};
    }

    private static Document document() {
        return new Document(Path.of("../shared/DOC.md"));
    }

    /** The section and the words of each sentence that has a test. */
    static List<String> names() {
        List<String> names = new ArrayList<>();
        for (Sentences sentences : all(document(), NO_TEST)) {
            sentences.all();
            names.addAll(sentences.names());
        }
        return names;
    }

    /** Runs the tests whose words hold that; tells how many are wrong, and -1 if there are none. */
    public static int wrong(String only) {
        Document document = document();
        int checks = 0;
        int wrong = 0;
        for (Sentences sentences : all(document, only)) {
            sentences.all();
            checks += sentences.checks();
            wrong += sentences.wrong();
        }
        if (only.isEmpty()) {
            List<String> unnamed = document.unnamed();
            unnamed.forEach(words -> System.out.println("without a test: " + words));
            wrong += unnamed.size();
            System.out.print(document.isThere() ? "" : "the document is not there: its words are not looked up\n");
        }
        System.out.println(checks + " checks, " + wrong + " wrong");
        return checks == 0 ? -1 : wrong;
    }

    public static void main(String[] args) {
        if (wrong(args.length == 0 ? "" : args[0]) != 0) {
            System.exit(1);
        }
    }
}
