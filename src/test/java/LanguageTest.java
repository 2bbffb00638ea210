import java.io.IOException;
import java.nio.file.Files;
import java.nio.file.Path;
import java.util.List;
import java.util.Map;
import java.util.TreeMap;
import java.util.regex.Matcher;
import java.util.regex.Pattern;

/** Rules of LANGUAGE.md that can be seen in the words of the file. It is run from the project's directory. */
public final class LanguageTest {
    private static final Due due = new Due();
    /** Words that the rules forbid, or that the file has had no need of. */
    private static final String[] NEVER = {"throw", "throws", "try", "catch", "finally", "synchronized", "assert",
        "import", "package", "protected", "double", "float", "Object", "hashCode", "toString", "var", "volatile",
        "transient", "native", "yield", "record", "interface", "enum", "instanceof", "null", "Integer\\.MAX_VALUE"};
    /** Names with a dot behind a capital: the library, as far as it is used. */
    private static final List<String> LIBRARY = List.of("Math.max", "Integer.bitCount", "System.arraycopy",
        "Long.MIN_VALUE");

    public static void main(String[] args) throws IOException {
        String source = Files.readString(Path.of("src/main/java/AreaOrders.java"));
        String code = source.replaceAll("(?s)/\\*.*?\\*/", "").replaceAll("//[^\n]*", "");
        for (String word : NEVER) {
            due.holds("no " + word, !Pattern.compile("\\b" + word + "\\b").matcher(code).find());
        }
        due.holds("no lambda, no reference to a method", !code.contains("->") && !code.contains("::"));
        due.holds("ASCII alone", source.chars().allMatch(c -> c == '\n' || c >= 32 && c < 127));
        library(code);
        madeInConstructorsAlone(code);
        shortMethods(code);
        callsGoEightDeep(code);
        due.end();
    }

    private static void library(String code) {
        Matcher dotted = Pattern.compile("\\b[A-Z]\\w*\\.\\w+").matcher(code);
        while (dotted.find()) {
            due.holds("library: " + dotted.group(), LIBRARY.contains(dotted.group()));
        }
    }

    /** All calls live in one room: what a call makes would stay there. */
    private static void madeInConstructorsAlone(String code) {
        for (String line : code.split("\n")) {
            if (Pattern.compile("\\bnew\\b").matcher(line).find()) {
                boolean field = line.matches(" *(private )?final [\\w\\[\\]]+ \\w+ = new .*;");
                due.holds("made in a call: " + line, field || line.contains("sheets[k] = new Sheet();"));
            }
        }
    }

    private static void shortMethods(String code) {
        String[] lines = code.split("\n");
        for (int k = 0; k < lines.length; k++) {
            if (lines[k].matches(" +[\\w \\[\\]]+\\([^;]*\\) \\{") && !lines[k].matches(" +(if|for|while|switch).*")) {
                String end = lines[k].replaceAll("\\S.*", "") + "}";
                int length = 1;
                while (k + length < lines.length && !lines[k + length].equals(end)) {
                    length++;
                }
                due.holds("too long: " + lines[k], length < 60);
            }
        }
    }

    /** No method's name stands in two classes of the file, so that a name tells which one is called. */
    private static void callsGoEightDeep(String code) {
        Map<String, String> bodies = new TreeMap<>();
        Matcher method = Pattern.compile("(?sm)^( +)(?:[\\w\\[\\]]+ )+(\\w+)\\([^;()]*\\) \\{$(.*?)^\\1\\}$").matcher(code);
        while (method.find()) {
            due.holds("two methods " + method.group(2), bodies.put(method.group(2), method.group(3)) == null);
        }
        due.holds("the methods are found", bodies.size() > 26 && bodies.containsKey("lay"));
        for (String name : bodies.keySet()) {
            due.holds("at most eight deep: " + name, deepest(bodies, name, 1) <= 8);
        }
    }

    /** One that calls itself, on whatever way, would be as deep as is looked. */
    private static int deepest(Map<String, String> bodies, String name, int depth) {
        int most = depth;
        Matcher called = Pattern.compile("\\b(\\w+)\\(").matcher(bodies.getOrDefault(name, ""));
        while (depth < 12 && called.find()) {
            if (bodies.containsKey(called.group(1)) || called.group(1).matches("max|bitCount|arraycopy")) {
                most = Math.max(most, deepest(bodies, called.group(1), depth + 1));
            }
        }
        return most;
    }
}
