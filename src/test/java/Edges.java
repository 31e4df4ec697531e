import java.util.ArrayList;
import java.util.List;
import java.util.regex.Matcher;
import java.util.regex.Pattern;

/**
 * The sentences of the document that name an edge, and which of them have a test. Each test says first which
 * words of which promise it stands for (0: the Terms); words that are not the document's are a fault of the test.
 */
final class Edges {
    /** What tells a clause of the document that names an edge. */
    private static final Pattern EDGE = Pattern.compile("NONE|Refused|Exception|-[123]|\\bnone\\b|\\bnothing\\b"
        + "|\\bnobody\\b|\\bNo\\b|\\bat most\\b|\\bmore than\\b|\\bbelow\\b|\\babove \\d|\\btoo\\b"
        + "|\\bempty\\b|\\bnot\\b"
        + "|\\bsigns? alone\\b|\\bwithout\\b|\\belse\\b|\\bothers\\b|\\banother\\b|\\d \\.\\. |\\b0, if\\b|\\b1, if\\b"
        + "|\\bNothing\\b|\\bfirst\\b");

    final Due d;
    private final String[] sections = new String[46];
    private final List<List<String>> quoted = new ArrayList<>();
    private int askedAhead = 0;
    private String open = "";

    Edges(Due d, String document) {
        this.d = d;
        for (int n = 0; n < sections.length; n++) {
            sections[n] = n == 0 ? terms(document) : promise(document, n);
            quoted.add(new ArrayList<>());
        }
    }

    private static String terms(String document) {
        int from = document.indexOf("## Terms");
        int to = document.indexOf("## Promise 1:");
        return oneLine(document.substring(from, to));
    }

    private static String promise(String document, int n) {
        Matcher m = Pattern.compile("## Promise " + n + ": [^\\n]*\\n(.*?)\\n## ", Pattern.DOTALL).matcher(document);
        if (!m.find()) {
            throw new IllegalStateException("the document has no promise " + n);
        }
        // the first colon behind the face's line: words of the face are no sentence
        return oneLine(m.group(1).substring(m.group(1).indexOf("`:") + 2));
    }

    private static String oneLine(String some) {
        return some.replaceAll("\\s+", " ").trim();
    }

    /** The test of these words begins. */
    void says(int promise, String words) {
        close();
        String named = (promise == 0 ? "Terms" : "promise " + promise) + ": " + words;
        d.under("");
        d.due("words of the document (" + named + ")", sections[promise].contains(words), true);
        quoted.get(promise).add(words);
        d.under(named);
        open = named;
        askedAhead = d.asked();
    }

    private void close() {
        if (!open.isEmpty()) {
            d.due("answers asked for", d.asked() > askedAhead, true);
        }
    }

    /** Behind all tests: clauses that name an edge and are in no quoted words. */
    void finish() {
        close();
        d.under("");
        for (int n = 1; n < sections.length; n++) {
            boolean[] covered = covered(n);
            int from = 0;
            for (int p = 0; p <= sections[n].length(); p++) {
                if (p == sections[n].length() || ".;:".indexOf(sections[n].charAt(p)) >= 0 && ends(n, p)) {
                    String clause = sections[n].substring(from, p);
                    boolean edge = EDGE.matcher(clause).find();
                    d.due("a test for an edge of promise " + n + ": " + clause, edge && !any(covered, from, p), false);
                    from = Math.min(p + 1, sections[n].length());
                }
            }
        }
    }

    /** A point of 0 .. 2 ends no clause. */
    private boolean ends(int n, int p) {
        return p + 1 == sections[n].length() || sections[n].charAt(p + 1) == ' ' && sections[n].charAt(p - 1) != '.';
    }

    private boolean[] covered(int n) {
        boolean[] covered = new boolean[sections[n].length()];
        for (String words : quoted.get(n)) {
            int at = sections[n].indexOf(words);
            for (int p = at; at >= 0 && p < at + words.length(); p++) {
                covered[p] = true;
            }
        }
        return covered;
    }

    private static boolean any(boolean[] covered, int from, int to) {
        for (int p = from; p < to; p++) {
            if (covered[p]) {
                return true;
            }
        }
        return false;
    }
}
