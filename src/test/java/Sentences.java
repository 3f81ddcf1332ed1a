import java.util.ArrayList;
import java.util.BitSet;
import java.util.List;

/**
 * The sentences of the document, each of which a test takes up by its words: a sentence that is not
 * there, one behind which nothing is checked, and one that no test takes up, are told as faults.
 */
final class Sentences {
    private final Check check;
    private final String text;
    private final BitSet taken = new BitSet();
    private String last = "";
    private int checksBefore;

    /** Takes the part of the document from one heading up to another one. */
    Sentences(Check check, String document, String from, String to) {
        this.check = check;
        int begin = document.indexOf("\n" + from);
        int end = document.indexOf("\n" + to);
        text = begin < 0 || end < begin ? "" : document.substring(begin + 1, end);
    }

    /** Takes up words that must stand behind a heading of the document, and ahead of the next one. */
    void says(String heading, String words) {
        closeLast();
        int from = Math.max(0, text.indexOf(heading));
        int next = text.indexOf("\n## ", from);
        int at = text.indexOf(words, from);
        boolean isThere = at >= 0 && (next < 0 || at < next);
        check.due("the document's words: " + words, true, () -> isThere);
        if (isThere) {
            taken.set(at, at + words.length());
        }
        last = words;
        checksBefore = check.amount();
    }

    private void closeLast() {
        int checks = check.amount() - checksBefore;
        check.due("something is checked of: " + last, true, () -> last.isEmpty() || checks > 0);
    }

    /** Checks that no line but those that begin with one of the given marks holds words that no test took up. */
    void end(String... free) {
        closeLast();
        List<String> left = new ArrayList<>();
        int begin = 0;
        for (String line : text.split("\n", -1)) {
            StringBuilder words = new StringBuilder();
            for (int i = 0; i < line.length(); i++) {
                if (!taken.get(begin + i)) {
                    words.append(line.charAt(i));
                }
            }
            begin += line.length() + 1;
            boolean isFree = words.toString().isBlank();
            for (String mark : free) {
                isFree = isFree || words.toString().startsWith(mark);
            }
            if (!isFree) {
                left.add(words.toString().trim());
            }
        }
        check.due("what no test takes up", "[]", () -> left);
    }
}
