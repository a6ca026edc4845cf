import java.util.ArrayList;
import java.util.List;

/**
 * That no sentence is left out: every sentence under each promise's heading is quoted by a test at its boundary, of
 * refusals each one, and so is all of the terms.
 */
public final class QuotesTest {
    private static final int PROMISES = 34;
    private static final Check check = new Check();

    public static void main(String[] args) {
        Edge edge = new Edge();
        IceEdgesTest.all(edge);
        RinkEdgesTest.all(edge);
        DrawEdgesTest.all(edge);
        MeasureEdgesTest.all(edge);
        MindEdgesTest.all(edge);
        RowEdgesTest.all(edge);
        JudgesEdgesTest.all(edge);
        PracticeEdgesTest.all(edge);
        ImageEdgesTest.all(edge);
        OrderEdgesTest.all(edge);
        for (int promise = 1; promise <= PROMISES; promise++) {
            everySentence(edge, promise);
        }
        theTerms(edge);
        check.finish("QuotesTest");
    }

    private static void everySentence(Edge edge, int promise) {
        // " .. " is no end of a sentence.
        for (String sentence : edge.textOf(promise).split("(?<=[^.]\\.) ")) {
            quoted(edge, promise + ": " + sentence);
            List<String> refusals = clauses(sentence);
            for (String refusal : refusals) {
                if (refusals.size() > 1) {
                    quoted(edge, promise + ": " + sentence + " | " + refusal);
                }
            }
        }
    }

    /** The refusals that a sentence tells: "-1 either", "-2", "-6 (3; 99)"; none of another sentence. */
    private static List<String> clauses(String sentence) {
        List<String> found = new ArrayList<>();
        if (sentence.startsWith("-") || sentence.startsWith("Refused as told")) {
            String bare = sentence.substring(0, sentence.length() - 1);
            for (String clause : bare.split("; (?![^(]*\\))")) {
                found.add(clause);
            }
        }
        return found;
    }

    private static void quoted(Edge edge, String quote) {
        check.due("a test quotes " + quote, edge.quotes.contains(quote) ? 1 : 0, 1);
    }

    private static void theTerms(Edge edge) {
        String all = edge.termsText();
        String terms = all.substring(all.indexOf("## Terms") + 8).replace("==== II.", "").trim();
        StringBuilder left = new StringBuilder(terms);
        for (String quote : edge.quotes) {
            String sentence = quote.substring(quote.indexOf(": ") + 2);
            int at = terms.indexOf(sentence);
            if (at >= 0) {
                left.replace(at, at + sentence.length(), " ".repeat(sentence.length()));
            }
        }
        String unquoted = left.toString().trim().replaceAll(" +", " ");
        check.due("what no test quotes: " + unquoted, unquoted.length(), 0);
    }
}
