import java.io.IOException;
import java.nio.file.Files;
import java.nio.file.Path;

/** Each sentence of the document has a test of its own, which names its promise and quotes it. */
public final class SentenceTest {
    private static final Path DOCUMENT = Path.of("../shared/DOC.md");

    public static void main(String[] args) throws IOException {
        terms();
        promises();
        if (Files.isReadable(DOCUMENT)) {
            Document.isQuotedWhole(DOCUMENT);
        } else {
            System.out.println("not looked at: whether all of the document is quoted, as it is not at " + DOCUMENT);
        }
        Expect.end();
    }

    private static void terms() {
        TermsChip.run();
        TermsPower.run();
        TermsRecord.run();
        TermsPage.run();
        TermsWhere.run();
        TermsWornOut.run();
        TermsMount.run();
        TermsFails.run();
    }

    private static void promises() {
        Promise01NewObject.run();
        Promise02Axle.run();
        Promise03Close.run();
        Promise04Annul.run();
        Promise05Sync.run();
        Promise06Ticket.run();
        Promise07DayTotal.run();
        Promise08RangeTotal.run();
        Promise09Find.run();
        Promise10Audit.run();
        Promise11ExportByte.run();
        Promise12SetProduct.run();
        Promise13CutAfter.run();
        Promise14Crash.run();
        Promise15Mount.run();
        Promise16WearOf.run();
        Promise17FailBlock.run();
        Promise18Poke.run();
        Promise19Word.run();
        Promise20State.run();
    }
}
