import java.io.ByteArrayOutputStream;
import java.io.File;
import java.io.IOException;
import java.io.PrintStream;
import java.lang.reflect.Method;
import java.lang.reflect.Modifier;
import java.net.URL;
import java.net.URLClassLoader;
import java.nio.file.Files;
import java.nio.file.Path;
import java.util.List;
import java.util.regex.Matcher;
import java.util.regex.Pattern;
import javax.tools.ToolProvider;

/** README.md: its example compiles, prints what stands there, and each call has its lines and its answer. */
final class ReadmeTest {
    private static final Pattern ANSWER = Pattern.compile("`(\\w+)(\\([^`]*\\))` is (-?\\d+)");
    private static final Due DUE = new Due("ReadmeTest");

    public static void main(String[] args) throws IOException, ReflectiveOperationException {
        Document readme = new Document(Document.README);
        String printed = printedBy(readme.block("Use", "java"));
        is("the example prints what stands there", printed.equals(readme.block("Use", "text")));
        String calls = readme.bodyOf("Each call").replaceAll("\\s+", " ");
        answersAsPrinted(calls, printed);
        for (Method method : RegisterHouse.class.getDeclaredMethods()) {
            if (Modifier.isPublic(method.getModifiers())) {
                isTold(method.getName(), calls);
            }
        }
        is("how to run the tests", readme.block("Tests", "sh").equals(".ci/run"));
        testsNamed(readme.bodyOf("Tests"));
        DUE.end();
    }

    private static void is(String what, boolean held) {
        DUE.is(what, held ? 1 : 0, 1);
    }

    private static String printedBy(String example) throws IOException, ReflectiveOperationException {
        Path room = Files.createTempDirectory("readme");
        Path source = Files.writeString(room.resolve("Example.java"), example);
        int refused = ToolProvider.getSystemJavaCompiler().run(null, null, null, "-cp",
            System.getProperty("java.class.path"), "-d", room.toString(), source.toString());
        DUE.is("the example compiles", refused, 0);
        String printed = refused == 0 ? printedFrom(room) : "";
        for (File file : room.toFile().listFiles()) {
            Files.delete(file.toPath());
        }
        Files.delete(room);
        return printed;
    }

    private static String printedFrom(Path room) throws IOException, ReflectiveOperationException {
        PrintStream out = System.out;
        ByteArrayOutputStream printed = new ByteArrayOutputStream();
        try (URLClassLoader loader = new URLClassLoader(new URL[] {room.toUri().toURL()})) {
            System.setOut(new PrintStream(printed, true));
            loader.loadClass("Example").getMethod("main", String[].class).invoke(null, (Object) new String[0]);
        } finally {
            System.setOut(out);
        }
        return printed.toString().replace(System.lineSeparator(), "\n").trim();
    }

    private static void answersAsPrinted(String calls, String printed) {
        List<String> lines = printed.lines().toList();
        Matcher answer = ANSWER.matcher(calls);
        while (answer.find()) {
            String line = answer.group(1) + answer.group(2) + " is " + answer.group(3);
            is("the example prints: " + line, lines.contains(line));
        }
    }

    /** A call has an entry of its own with an answer in it. */
    private static void isTold(String name, String calls) {
        Matcher entry = Pattern.compile("- `int " + name + "\\([^`]*\\)`: (.*?)(?= - `|$)").matcher(calls);
        boolean told = entry.find();
        is("an entry for " + name, told);
        if (told) {
            Matcher answer = ANSWER.matcher(entry.group(1));
            is("an answer in the entry for " + name, answer.find() && answer.group(1).equals(name));
        }
    }

    private static void testsNamed(String section) {
        for (String file : new File("src/test/java").list()) {
            if (file.endsWith("Test.java")) {
                is(file + " is named", section.contains("`" + file.replace(".java", "") + "`"));
            }
        }
    }
}
