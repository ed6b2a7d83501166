import java.util.function.Function;

/**
 * Tests that stand under the words of the document that they test, each with objects of its own.
 * Words that the document does not have are wrong, and so are words of it that no test stands under.
 */
final class Clauses {
    private final Document document = new Document();
    private final Answers answers = new Answers();
    private String section = "";
    private String words = "";
    private int tests = 0;

    void section(String heading) {
        section = heading;
    }

    void clause(String quotation, Runnable test) {
        words = section + ", '" + quotation + "': ";
        tests++;
        answers.due(words + "is in the document", true, document.quote(section, quotation));
        int before = answers.asked();
        try {
            test.run();
        } catch (AssertionError e) {
            answers.due(words + "the test", "runs", e.getMessage());
        }
        answers.due(words + "is tested", true, answers.asked() > before);
    }

    void due(Object want, Run.Answer got) {
        answers.due(words + got.call(), String.valueOf(want), got.value());
    }

    void text(String what, String want, String got) {
        answers.due(words + what, want, got);
    }

    /** The call answers this, false or an exception's name, and changes nothing. */
    void refused(String want, Run run, Function<Run, Run.Answer> call) {
        String before = run.state();
        Run.Answer got = call.apply(run);
        due(want, got);
        answers.due(words + "behind the refused " + got.call(), before, run.state());
    }

    void end() {
        answers.due("words without a test", "", document.unquoted());
        System.out.println(tests + " clauses");
        answers.end();
    }
}
