import java.io.IOException;
import java.nio.file.Files;
import java.nio.file.Path;

/**
 * Tests of single sentences: each begins with of(), that names the promise and the document's words, and has
 * answers that are due by these. Words that the document doesn't have are a fault of the test itself.
 */
final class Sentences {
    private static final Path DOCUMENT = Path.of("../shared/DOC.md");
    private static final String PROMISE = "## Promise ";

    private final Due due = new Due();
    private final String document;
    private final boolean[] quoted;
    private String sentence = "no sentence";
    private int answers = 1;

    Sentences() {
        String text = "";
        try {
            text = Files.readString(DOCUMENT);
        } catch (IOException e) {
            due.holds("there is no " + DOCUMENT, false);
        }
        document = text;
        quoted = new boolean[text.length()];
    }

    /** The next answers are due by these words, that stand with the promise, or with what is ahead of all promises. */
    void of(int promise, String words) {
        needAnswers();
        sentence = "promise " + promise + ", \"" + words + "\": ";
        answers = 0;
        int start = document.indexOf(PROMISE + promise + ":");
        int end = start < 0 ? -1 : document.indexOf("\n## ", start + 1);
        int at = start < 0 ? -1 : document.indexOf(words, start);
        if (at < 0 || at + words.length() > end) {
            at = document.indexOf(words);
            end = document.indexOf(PROMISE);
        }
        boolean stands = at >= 0 && at + words.length() <= end;
        due.holds(sentence + "stands in the document", stands);
        for (int i = 0; stands && i < words.length(); i++) {
            quoted[at + i] = true;
        }
    }

    void is(String call, long got, long want) {
        answers++;
        due.is(sentence + call, got, want);
    }

    void same(String what, String got, String want) {
        answers++;
        due.holds(sentence + what + ": " + got + ", due is " + want, got.equals(want));
    }

    private void needAnswers() {
        due.holds(sentence + "has an answer that is due", answers > 0);
    }

    /** Each word of the terms and of the promises has a sentence's test. */
    void needWholeDocument() {
        int start = document.indexOf("## Terms");
        int end = document.indexOf("## Not promised");
        due.holds("the document has terms and an end", start >= 0 && end >= 0);
        for (int at = start; at >= 0 && at < end;) {
            int next = document.indexOf('\n', at) + 1;
            if (isPromising(document.substring(at, next))) {
                needLine(at, next);
            }
            at = next;
        }
    }

    /** Headings, marks of a listing and the interface's own headings promise nothing. */
    private static boolean isPromising(String line) {
        return !line.startsWith("#") && !line.startsWith("```") && !line.startsWith("Ahead of the calls");
    }

    private void needLine(int at, int next) {
        // What stands between the first two marks is the call itself.
        int from = document.charAt(at) == '`' ? document.indexOf("`:", at) + 2 : at;
        for (int i = from; i < next; i++) {
            if (Character.isLetter(document.charAt(i)) && !quoted[i]) {
                int stop = i;
                while (stop < next - 1 && !quoted[stop]) {
                    stop++;
                }
                due.holds("no test has these words: " + document.substring(i, stop), false);
                i = stop;
            }
        }
    }

    void end() {
        needAnswers();
        due.end();
    }
}
