import java.util.BitSet;

/** The sentences of the document: which one the runs of calls are about, and whether each has runs of its own. */
final class Sentence {
    private static final String TEXT = text();
    private static final BitSet QUOTED = new BitSet();
    private static String current = "";

    private Sentence() {
    }

    /** What the document says of behaviour from its first line on, without its headings and its code. */
    private static String text() {
        String said = Document.between(Document.all(), "# StreamEnd\n", "## Not promised");
        return said.replaceAll("(?s)```java.*?```", " ").replaceAll("```(text)?", " ")
                .replaceAll("(?m)^#.*$", " ").replaceAll("`[^`]*`", " ").replaceAll("\\s+", " ");
    }

    /** The runs that follow are about these words of the document. */
    static void says(String words) {
        int at = TEXT.indexOf(words);
        if (at < 0) {
            current = "";
            Script.note("the document has no such words: " + words);
            return;
        }
        current = words;
        while (at >= 0) {
            QUOTED.set(at, at + words.length());
            at = TEXT.indexOf(words, at + 1);
        }
    }

    static String told() {
        return current.isEmpty() ? "" : "\n    the document says: " + current;
    }

    /** Notes all words of the document that no runs are about. */
    static void allAreQuoted() {
        current = "";
        int at = QUOTED.nextClearBit(0);
        while (at < TEXT.length()) {
            int end = QUOTED.nextSetBit(at);
            String left = TEXT.substring(at, end < 0 ? TEXT.length() : end);
            if (left.matches(".*[A-Za-z0-9].*")) {
                Script.note("no run of calls is about: " + left);
            }
            at = end < 0 ? TEXT.length() : QUOTED.nextClearBit(end);
        }
        if (TEXT.isEmpty()) {
            Script.note("the document's text was not found");
        }
    }
}
