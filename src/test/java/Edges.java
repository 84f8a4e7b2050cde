import java.util.List;
import java.util.function.Consumer;

/** Runs tests of which each names the sentence of the document that it tests. */
final class Edges {
    private final Document document = new Document();
    private final Check check = new Check();

    void says(String part, String words, Consumer<Check> test) {
        check.about(part + ", \"" + words + "\": ");
        check.due("these words stand once in the document", document.name(part, words) ? 1 : 0, 1);
        int before = check.asked();
        try {
            test.accept(check);
        } catch (RuntimeException | AssertionError e) {
            check.due("the test came to its end, not to " + e, 0, 1);
        }
        check.due("the test asked something", check.asked() > before ? 1 : 0, 1);
        check.about("");
    }

    void end() {
        List<String> unnamed = document.unnamed();
        check.due("no test names " + unnamed, unnamed.size(), 0);
        check.end();
    }
}
