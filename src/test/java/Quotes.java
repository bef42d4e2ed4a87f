import java.util.ArrayList;
import java.util.List;

/** Runs tests, each under a sentence of the document, and finds it wrong if a sentence has none. */
final class Quotes {
    private final Check check;
    private final List<String> sentences;
    private final List<String> untested;

    Quotes(Check check, List<String> sentences) {
        this.check = check;
        this.sentences = sentences;
        untested = new ArrayList<>(sentences);
    }

    /** Tests the one sentence that begins so. */
    void test(String beginning, Runnable... tests) {
        String found = null;
        for (String sentence : sentences) {
            if (sentence.startsWith(beginning)) {
                check.isTrue("only one sentence begins with " + beginning, found == null);
                found = sentence;
            }
        }
        check.isTrue("the document says " + beginning, found != null);
        untested.remove(found);
        check.about(beginning);
        for (Runnable test : tests) {
            int before = check.checked();
            test.run();
            check.isTrue("its tests check something", check.checked() > before);
        }
        check.about("");
    }

    /** Ends the test; the sentences that begin so need no test. */
    void end(String... beginnings) {
        for (String beginning : beginnings) {
            check.isTrue("untested is " + beginning, untested.removeIf(sentence -> sentence.startsWith(beginning)));
        }
        for (String sentence : untested) {
            check.isTrue("there is a test of: " + sentence, false);
        }
        check.end();
    }
}
