import java.io.IOException;
import java.nio.file.Files;
import java.nio.file.Path;
import java.util.LinkedHashMap;
import java.util.Map;
import java.util.regex.Matcher;
import java.util.regex.Pattern;

/**
 * That each test by sentence quotes the document as it is, and that each word there which tells of a boundary
 * (a range, what is empty, full, wrapped or cut, a refusal) is within the words that some test quotes.
 */
public final class CoverTest {
    private static final Due due = new Due("CoverTest");

    private static final Pattern BOUNDARY = Pattern.compile("\\d+ \\.\\. \\d+|\\b\\d+ to \\d+\\b|\\bNONE\\b|\\bBAD\\b"
        + "|\\bSTATE\\b|\\bFULL\\b|\\bNO\\b|\\bNOTHING\\b|\\bCAST\\b|\\bSIZE\\b|\\bPLACE(?=:|\\.| \\()|-\\d+|\\bmodulo\\b"
        + "|\\bcut\\b|\\bwrapping\\b|\\blowest\\b|\\bbelow\\b|\\babove\\b|\\bbeyond\\b|\\bahead of\\b|\\bat first\\b"
        + "|\\bempty\\b|\\bnothing\\b|\\bnobody\\b|\\bnone\\b|\\bno such\\b|\\bNo\\b|\\bby then\\b|\\btoo early\\b"
        + "|\\bwithin\\b|\\bwithout\\b|\\bor more\\b|\\bmore than\\b|\\bno more\\b|\\bat most\\b|\\bleast\\b"
        + "|\\bgreatest\\b|\\bfewest\\b|\\bfirst\\b|\\bnewest\\b|\\blatest\\b|\\bwhatever\\b|\\bwherever\\b"
        + "|\\b1 or 2 digits\\b|\\bif it is\\b|\\bstays\\b|\\bchanges\\b");

    public static void main(String[] args) throws IOException {
        Path document = Path.of(args.length > 1 ? args[1] : "../shared/DOC.md");
        if (!Files.isRegularFile(document)) {
            System.out.println("CoverTest: there is no document at " + document + ", so nothing is looked at");
            return;
        }
        Map<String, String> parts = parts(Files.readString(document));
        Map<String, boolean[]> covered = new LinkedHashMap<>();
        parts.forEach((part, text) -> covered.put(part, new boolean[text.length()]));
        for (Sentences.Quote quote : quoted().quotes()) {
            cover(parts.get(quote.part()), covered.get(quote.part()), quote);
        }
        parts.forEach((part, text) -> look(part, text, covered.get(part)));
        due.end();
    }

    private static Sentences quoted() {
        Sentences all = Sentences.listing();
        Terms1SentencesTest.all(all);
        Terms2SentencesTest.all(all);
        Terms3SentencesTest.all(all);
        TravellersSentencesTest.all(all);
        DaysSentencesTest.all(all);
        PlansSentencesTest.all(all);
        ActsSentencesTest.all(all);
        return all;
    }

    /** The parts of the document by the names that the tests have for them, each as one line. */
    private static Map<String, String> parts(String document) {
        Map<String, String> parts = new LinkedHashMap<>();
        parts.put("What it is", between(document, "looked at, an image.", "## The public face"));
        parts.put("The public face", between(document, "## The public face", "## Terms"));
        parts.put("Terms 1", between(document, "==== 1", "==== 2"));
        parts.put("Terms 2", between(document, "==== 2", "==== 3"));
        parts.put("Terms 3", between(document, "==== 3", "Answers:"));
        parts.put("Answers", between(document, "Answers:", "## Promise 1:"));
        for (int n = 1; n <= 33; n++) {
            String next = n < 33 ? "## Promise " + (n + 1) + ":" : "## Not promised";
            // Behind the signature, which is no sentence.
            parts.put("Promise " + n, between(between(document, "## Promise " + n + ":", next), ")`:", ""));
        }
        return parts;
    }

    private static String between(String text, String from, String to) {
        int start = text.indexOf(from);
        due.holds("the document has '" + from + "'", start >= 0);
        int begin = Math.max(start, 0) + from.length();
        int end = to.isEmpty() ? text.length() : text.indexOf(to, begin);
        due.holds("the document has '" + to + "'", end >= 0);
        return text.substring(begin, end < 0 ? text.length() : end).replaceAll("\\s+", " ").trim();
    }

    private static void cover(String text, boolean[] covered, Sentences.Quote quote) {
        due.holds("a part " + quote.part(), text != null);
        if (text == null) {
            return;
        }
        int at = text.indexOf(quote.words());
        due.holds(quote.part() + " says '" + quote.words() + "'", at >= 0);
        while (at >= 0) {
            for (int i = at; i < at + quote.words().length(); i++) {
                covered[i] = true;
            }
            at = text.indexOf(quote.words(), at + 1);
        }
    }

    private static void look(String part, String text, boolean[] covered) {
        Matcher matcher = BOUNDARY.matcher(text);
        while (matcher.find()) {
            String around = text.substring(Math.max(0, matcher.start() - 30), Math.min(text.length(), matcher.end() + 20));
            due.holds(part + ": a test quotes '" + matcher.group() + "' in '.." + around + "..'",
                covered[matcher.start()] && covered[matcher.end() - 1]);
        }
    }
}
