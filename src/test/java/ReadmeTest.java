import java.io.File;
import java.io.IOException;
import java.lang.reflect.Method;
import java.lang.reflect.Modifier;
import java.net.URL;
import java.net.URLClassLoader;
import java.nio.file.Files;
import java.nio.file.Path;
import java.util.ArrayList;
import java.util.List;
import java.util.Set;
import java.util.TreeSet;
import java.util.regex.Matcher;
import java.util.regex.Pattern;
import java.util.stream.Stream;
import javax.tools.JavaCompiler;
import javax.tools.ToolProvider;

/**
 * What README.md shows of the use of the class answers as README.md says. All its pieces of Java are one program,
 * one behind another; a call with a number, or a constant's name, behind it on its line must answer that.
 * It is run from the project's directory.
 */
public final class ReadmeTest {
    private static final Due due = new Due();
    private static final Pattern PIECE = Pattern.compile("(?s)```java\n(.*?)```");
    private static final String OBJECT = "(?:x|new AreaOrders\\(\\))";
    private static final Pattern ANSWERED =
        Pattern.compile(" *(" + OBJECT + "\\.(\\w+)\\(.*\\)); *// *(-?\\d+|[A-Z]+)(:.*)?");

    private final Set<String> shown = new TreeSet<>();
    private int answers;

    public static void main(String[] args) throws IOException, ReflectiveOperationException {
        String readme = Files.readString(Path.of("README.md"));
        ReadmeTest test = new ReadmeTest();
        test.useIsAsTold(readme);
        test.wholeFaceIsShown();
        namesAllTests(readme);
        due.end();
    }

    private void useIsAsTold(String readme) throws IOException, ReflectiveOperationException {
        Path dir = Files.createTempDirectory("readme");
        try {
            Path file = dir.resolve("ReadmeUse.java");
            Files.writeString(file, program(readme));
            due.holds("README.md shows answers", answers > 0);
            JavaCompiler compiler = ToolProvider.getSystemJavaCompiler();
            boolean compiled = compiler != null && compiler.run(null, null, null, "-cp",
                System.getProperty("java.class.path"), "-d", dir.toString(), file.toString()) == 0;
            due.holds("what README.md shows can be compiled", compiled);
            if (compiled) {
                run(dir);
            }
        } finally {
            remove(dir);
        }
    }

    private String program(String readme) {
        StringBuilder text = new StringBuilder("public final class ReadmeUse {\n")
            .append("public static void use(java.util.List<String> wrong) {\n");
        Matcher piece = PIECE.matcher(readme);
        while (piece.find()) {
            for (String line : piece.group(1).split("\n")) {
                text.append(checked(line)).append('\n');
            }
        }
        return text.append("}\n}\n").toString();
    }

    /** A line that tells an answer is asked for it; another one stays as it is. */
    private String checked(String line) {
        Matcher told = ANSWERED.matcher(line);
        if (!told.matches()) {
            // What is written like an answer must be read as one.
            due.holds("a call without its answer: " + line, !line.matches(" *" + OBJECT + "\\..*//.*"));
            return line;
        }
        answers++;
        shown.add(told.group(2));
        String number = told.group(3);
        String want = Character.isLetter(number.charAt(0)) ? "AreaOrders." + number : number + "L";
        return "{ long got = " + told.group(1) + "; if (got != " + want + ") { wrong.add(\"answer " + answers + ", "
            + told.group(1).replace("\\", "\\\\").replace("\"", "\\\"") + ": \" + got + \", README.md says " + number
            + "\"); } }";
    }

    private static void run(Path dir) throws IOException, ReflectiveOperationException {
        List<String> wrong = new ArrayList<>();
        try (URLClassLoader loader = new URLClassLoader(new URL[] {dir.toUri().toURL()})) {
            loader.loadClass("ReadmeUse").getMethod("use", List.class).invoke(null, wrong);
        }
        for (String one : wrong) {
            due.holds(one, false);
        }
    }

    private void wholeFaceIsShown() {
        for (Method method : AreaOrders.class.getDeclaredMethods()) {
            if (Modifier.isPublic(method.getModifiers())) {
                due.holds("README.md shows " + method.getName(), shown.contains(method.getName()));
            }
        }
    }

    private static void namesAllTests(String readme) {
        String[] files = new File("src/test/java").list();
        due.holds("there are tests", files != null);
        for (String file : files == null ? new String[0] : files) {
            String name = file.replace(".java", "");
            if (name.endsWith("Test")) {
                due.holds("README.md names " + name, readme.contains(name));
            }
        }
    }

    private static void remove(Path dir) throws IOException {
        List<Path> all;
        try (Stream<Path> found = Files.walk(dir)) {
            all = new ArrayList<>(found.toList());
        }
        all.sort((one, other) -> other.getNameCount() - one.getNameCount());
        for (Path one : all) {
            Files.delete(one);
        }
    }
}
