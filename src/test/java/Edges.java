import java.util.ArrayList;
import java.util.List;

/** Takes the sentences of the document one by one, each with the runs of calls that would fail if it were broken. */
final class Edges {
    private final Expect expect = new Expect();
    private final Document document;
    private String section = "";
    private String sentence = "";
    private int runsOfSentence = 1;
    private int sentences = 0;

    Edges(Document document) {
        this.document = document;
    }

    void section(String name) {
        section = name;
    }

    /** The runs that follow are about this sentence, or part of one, which stands once in the section. */
    void of(String quote) {
        expect.yes(runsOfSentence > 0, "a run for: " + sentence);
        sentence = quote;
        runsOfSentence = 0;
        sentences++;
        expect.is(1, document.mark(section, quote), section + " has the sentence: " + quote);
    }

    /**
     * A run of calls on a new object, parted by semicolons: "call = answer", or a call alone, which then
     * must be neither refused nor answered false. The first answer that is not as due ends the run.
     */
    void run(String... lines) {
        runsOfSentence++;
        Subject x = new Subject();
        List<String> told = new ArrayList<>();
        for (String row : String.join(";", lines).split(";")) {
            if (!tell(x, row.trim(), told)) {
                break;
            }
        }
        expect.yes(x.calls() <= 512, about(told) + " has " + x.calls() + " calls");
    }

    private boolean tell(Subject x, String row, List<String> told) {
        int equals = row.indexOf(" = ");
        String call = equals < 0 ? row : row.substring(0, equals).trim();
        told.add(call);
        String got = answer(x, call);
        if (equals >= 0) {
            return expect.answers(row.substring(equals + 3).trim(), got, about(told));
        }
        return expect.no(isRefusal(got) || got.contains("answers"), about(told) + " answers " + got + ": refused");
    }

    /** Where a number is due and something else comes, the run goes on, so that the other sentences are looked at too. */
    private static String answer(Subject x, String call) {
        try {
            return x.answer(call);
        } catch (NumberFormatException e) {
            return "no number: " + e.getMessage();
        }
    }

    static boolean isRefusal(String answer) {
        return answer.equals("false") || answer.equals("IAE") || answer.equals("ISE") || answer.equals("IOOBE") || answer.equals("NSEE");
    }

    void same(String due, String got, String what) {
        runsOfSentence++;
        expect.answers(due, got, section + ": \"" + sentence + "\": " + what);
    }

    private String about(List<String> told) {
        return section + ": \"" + sentence + "\": " + String.join("; ", told);
    }

    void end() {
        expect.yes(runsOfSentence > 0, "a run for: " + sentence);
        for (String left : document.unmarked()) {
            expect.answers("a test", "none", "the document's: " + left);
        }
        System.out.println(sentences + " sentences");
        expect.end();
    }
}
