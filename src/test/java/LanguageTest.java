import java.io.IOException;
import java.nio.file.Files;
import java.nio.file.Path;
import java.util.List;
import java.util.regex.Matcher;
import java.util.regex.Pattern;

/** Rules of LANGUAGE.md that can be seen in the words of the file. It is run from the project's directory. */
public final class LanguageTest {
    private static final Due due = new Due();
    /** Words that the rules forbid, or that the file has had no need of. */
    private static final String[] NEVER = {"throw", "throws", "try", "catch", "finally", "synchronized", "assert",
        "import", "package", "protected", "double", "float", "Object", "hashCode", "toString", "var", "volatile",
        "transient", "native", "yield", "record", "interface", "enum", "instanceof", "null", "Integer\\.MAX_VALUE"};
    /** Names with a dot behind a capital: the library, as far as it is used. */
    private static final List<String> LIBRARY = List.of("Math.max", "Integer.bitCount", "System.arraycopy",
        "Long.MIN_VALUE");

    public static void main(String[] args) throws IOException {
        String source = Files.readString(Path.of("src/main/java/AreaOrders.java"));
        String code = source.replaceAll("(?s)/\\*.*?\\*/", "").replaceAll("//[^\n]*", "");
        for (String word : NEVER) {
            due.holds("no " + word, !Pattern.compile("\\b" + word + "\\b").matcher(code).find());
        }
        due.holds("no lambda, no reference to a method", !code.contains("->") && !code.contains("::"));
        due.holds("ASCII alone", source.chars().allMatch(c -> c == '\n' || c >= 32 && c < 127));
        library(code);
        madeInConstructorsAlone(code);
        shortMethods(code);
        due.end();
    }

    private static void library(String code) {
        Matcher dotted = Pattern.compile("\\b[A-Z]\\w*\\.\\w+").matcher(code);
        while (dotted.find()) {
            due.holds("library: " + dotted.group(), LIBRARY.contains(dotted.group()));
        }
    }

    /** All calls live in one room: what a call makes would stay there. */
    private static void madeInConstructorsAlone(String code) {
        for (String line : code.split("\n")) {
            if (Pattern.compile("\\bnew\\b").matcher(line).find()) {
                boolean field = line.matches(" *(private )?final [\\w\\[\\]]+ \\w+ = new .*;");
                due.holds("made in a call: " + line, field || line.contains("sheets[k] = new Sheet();"));
            }
        }
    }

    private static void shortMethods(String code) {
        String[] lines = code.split("\n");
        for (int k = 0; k < lines.length; k++) {
            if (lines[k].matches(" +[\\w \\[\\]]+\\([^;]*\\) \\{") && !lines[k].matches(" +(if|for|while|switch).*")) {
                String end = lines[k].replaceAll("\\S.*", "") + "}";
                int length = 1;
                while (k + length < lines.length && !lines[k + length].equals(end)) {
                    length++;
                }
                due.holds("too long: " + lines[k], length < 60);
            }
        }
    }
}
