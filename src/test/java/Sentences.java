import java.util.ArrayList;
import java.util.List;

/**
 * Tests that each stand for one sentence, or one clause, of the document: it is quoted as it stands there,
 * and its test fails if it is broken.
 */
final class Sentences {
    interface Test {
        void run(Due due);
    }

    record Quote(String heading, String words) {
    }

    private final List<Quote> quotes = new ArrayList<>();
    private String heading = "";
    private int tests;
    private int seen;
    private int wrong;

    /** The heading of the document under which the next quotes stand. */
    void under(String next) {
        heading = next;
    }

    void test(String words, Test test) {
        quotes.add(new Quote(heading, words));
        Due due = new Due(heading + ", \"" + words + "\"");
        try {
            test.run(due);
        } catch (RuntimeException e) {
            due.fail("threw " + e);
        }
        if (due.seen() == 0) {
            due.fail("looked at no answer");
        }
        tests++;
        seen += due.seen();
        wrong += due.wrong();
    }

    /** Words that promise nothing by themselves: a name, which is tested where it is used, or what is left free. */
    void noTest(String words) {
        quotes.add(new Quote(heading, words));
    }

    List<Quote> quotes() {
        return quotes;
    }

    void end() {
        System.out.println("SentencesTest: " + tests + " tests, " + seen + " answers, " + wrong + " wrong");
        if (wrong != 0 || tests == 0) {
            System.exit(1);
        }
    }
}
