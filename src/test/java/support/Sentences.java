import java.io.IOException;
import java.util.HashSet;
import java.util.List;
import java.util.Set;

/** The sentences of the document, each with the tests that quote it. */
final class Sentences {
    /** What a sentence says, asked of the program. */
    interface Test {
        void ask(Check check);
    }

    private final Check check = new Check();
    private final List<Document.Part> all;
    private final Set<Document.Part> told = new HashSet<>();
    private final Set<String> quoted = new HashSet<>();
    private String section = "";
    private int tests;

    Sentences() throws IOException {
        all = Document.parts();
    }

    /** The section that the next quotes are from. */
    void in(String name) {
        section = name;
    }

    /** Runs the test of a sentence, or of the part of it that is quoted. */
    void holds(String quote, Test test) {
        tell(quote);
        tests++;
        int before = check.answers();
        try {
            test.ask(check);
        } catch (RuntimeException thrown) {
            check.due("the test ends by " + thrown, false, true);
        }
        check.due("the test asks something", check.answers() > before, true);
    }

    /** A sentence that says nothing that a call could answer. */
    void asksNothing(String quote) {
        tell(quote);
    }

    private void tell(String quote) {
        check.about(section + ", '" + quote + "': ");
        check.due("it has no other test of these words", quoted.add(section + quote), true);
        boolean stands = false;
        for (Document.Part part : all) {
            if (part.section().equals(section) && part.sentence().contains(quote)) {
                stands = true;
                if (quote.contains(part.text()) || part.text().contains(quote)) {
                    told.add(part);
                }
            }
        }
        check.due("it stands in the document", stands, true);
    }

    void end(String name) {
        check.about("");
        for (Document.Part part : all) {
            check.due("has a test: " + part, told.contains(part), true);
        }
        System.out.println(name + ": " + all.size() + " parts of sentences, " + tests + " tests");
        check.end(name);
    }
}
