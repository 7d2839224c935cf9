import java.util.List;
import java.util.Map;

/** Ties each test to the sentence of the document that it tests; in the end no sentence may be without one. */
final class Sentences {
    private static final Map<String, List<String>> LEFT = Document.sentences();

    private static String section = "";

    private Sentences() {
    }

    /** The tests that follow are for sentences of this section of the document. */
    static void of(String name) {
        section = name;
    }

    static void test(String sentence, Runnable test) {
        take(sentence);
        int before = Check.counted();
        try {
            test.run();
        } catch (RuntimeException e) {
            Check.due("the test", e.toString(), "no exception");
        }
        Check.due("anything looked at", Check.counted() > before, true);
        Check.about("");
    }

    /** For sentences that say nothing which could be broken by a call's answer. */
    static void namesNoCase(String sentence) {
        take(sentence);
        Check.about("");
    }

    static void end() {
        for (Map.Entry<String, List<String>> entry : LEFT.entrySet()) {
            for (String sentence : entry.getValue()) {
                Check.due(entry.getKey() + " | " + sentence + " |", "no test", "a test");
            }
        }
        Check.end();
    }

    private static void take(String sentence) {
        Check.about(section + " | " + sentence + " | ");
        boolean found = LEFT.containsKey(section) && LEFT.get(section).remove(sentence);
        Check.due("stands in the document, and has but this test", found, true);
    }
}
