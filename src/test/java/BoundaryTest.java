/**
 * The boundary cases of the document, sentence by sentence: each test names the section and the words that it is
 * about, and no sentence of the document is left without one.
 */
public final class BoundaryTest {
    public static void main(String[] args) {
        TextBounds.all();
        CallBounds.all();
        ItemBounds.all();
        ReversalBounds.all();
        QuestionBounds.all();
        everySentence();
        Check.end();
    }

    private static void everySentence() {
        Check.same("sections", 11 + 1 + 22, Document.sections());
        for (String sentence : Document.unquoted()) {
            Check.same("no test names: " + sentence, 1, 0);
        }
    }
}
