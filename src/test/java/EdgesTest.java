import java.io.IOException;
import java.nio.file.Files;
import java.nio.file.Path;

/**
 * A test for each sentence of the document, on either side of the boundaries that it names. Each test quotes its
 * sentence, and every word of the sections below has to be quoted by one. Its second argument is the document.
 */
final class EdgesTest {
    private static final String[] TERMS = {"Settings", "Stones", "A run", "What a leap costs", "Floods", "Texts"};
    private static final int PROMISES = 24;

    public static void main(String[] args) throws IOException {
        EdgesOfStory.run();
        EdgesOfTerms.run();
        EdgesOfRuns.run();
        EdgesOfLeaps.run();
        EdgesOfCosts.run();
        EdgesOfFloods.run();
        EdgesOfTexts.run();
        EdgesOfOrders.run();
        EdgesOfStones.run();
        EdgesOfReading.run();
        EdgesOfWhatIf.run();
        EdgesOfHistory.run();
        Checks.everySentenceIsTested();
        if (args.length > 1 && Files.exists(Path.of(args[1]))) {
            quotations(Doc.read(Path.of(args[1])));
        } else {
            System.out.println("EdgesTest: the document is not there, its words are not compared");
        }
        Checks.close("EdgesTest");
    }

    private static void quotations(Doc doc) {
        for (String[] quotation : Checks.sentences()) {
            Checks.isTrue("stands once under '" + quotation[0] + "': " + quotation[1],
                doc.quote(quotation[0], quotation[1]));
        }
        allQuoted(doc, "What it is");
        allQuoted(doc, "Terms");
        for (String heading : TERMS) {
            allQuoted(doc, heading);
        }
        for (int i = 1; i <= PROMISES; i++) {
            allQuoted(doc, "Promise " + i);
        }
    }

    private static void allQuoted(Doc doc, String heading) {
        for (String part : doc.unquoted(heading)) {
            Checks.isTrue("a test quotes, under '" + heading + "': " + part, false);
        }
        Checks.isTrue("all of '" + heading + "' was looked at", true);
    }
}
