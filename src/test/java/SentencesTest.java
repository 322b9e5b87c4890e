import java.io.IOException;

/**
 * Each sentence of the document's terms and promises with its own test; none of them may be
 * without one. With words as an argument, only the sentences that hold these are tested.
 */
public final class SentencesTest {
    public static void main(String[] args) throws IOException {
        Sentences.read();
        Sentences.choose(args.length > 0 ? args[0] : "");
        ChequeTerms.all();
        TextTerms.all();
        ChangePromises.all();
        TextPromises.all();
        NumberPromises.all();
        SlipPromises.all();
        Sentences.nothingLeft();
        Checks.end();
    }
}
