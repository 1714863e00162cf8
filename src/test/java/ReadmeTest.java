import java.io.ByteArrayOutputStream;
import java.io.IOException;
import java.io.PrintStream;
import java.lang.reflect.InvocationTargetException;
import java.net.URL;
import java.net.URLClassLoader;
import java.nio.file.Files;
import java.nio.file.Path;
import java.util.regex.Matcher;
import java.util.regex.Pattern;
import javax.tools.JavaCompiler;
import javax.tools.ToolProvider;

/** Runs the calls that README.md tells, and compares their answers with those that stand behind them. */
public final class ReadmeTest {

    private static final Pattern BLOCK = Pattern.compile("```java\n(.*?)```", Pattern.DOTALL);
    private static final Pattern PRINTED = Pattern.compile("println\\(.*\\); +// (.*)");
    private static final Pattern ANSWERED = Pattern.compile("(?:(\\w+ (\\w+)) = )?(.*?); +// (.*)");

    private static int right = 0;
    private static int wrong = 0;

    /** The program that is made of the page calls this for each answer. */
    public static void due(String call, String due, Object got) {
        if (due.equals(String.valueOf(got))) {
            right++;
        } else {
            wrong++;
            System.out.println("README.md: " + call + " answers " + got + ", not " + due);
        }
    }

    /** The program that is made of the page calls this for each class of the page. */
    public static void printed(String due, Runnable example) {
        PrintStream out = System.out;
        ByteArrayOutputStream bytes = new ByteArrayOutputStream();
        System.setOut(new PrintStream(bytes));
        example.run();
        System.setOut(out);
        due("Example", due, bytes.toString().trim());
    }

    private static String quoted(String text) {
        return "\"" + text.replace("\\", "\\\\").replace("\"", "\\\"") + "\"";
    }

    /** A line of the page as one of the program; a call with an answer behind it is compared. */
    private static String translated(String line) {
        Matcher matcher = ANSWERED.matcher(line);
        if (!matcher.matches()) {
            return line;
        }
        String call = matcher.group(3);
        String due = quoted(matcher.group(4));
        if (due.startsWith("\"throws ")) {
            return "try { due(" + quoted(call) + ", " + due + ", " + call + "); } catch (RuntimeException error) { due("
                    + quoted(call) + ", " + due + ", \"throws \" + error.getClass().getSimpleName()); }";
        }
        String made = matcher.group(1);
        return (made == null ? "" : made + " = " + call + ";")
                + "due(" + quoted(call) + ", " + due + ", " + (made == null ? call : matcher.group(2)) + ");";
    }

    /** A line that runs a whole class of the page, Example, and compares what it prints. */
    private static String printing(String block) {
        Matcher matcher = PRINTED.matcher(block);
        return "ReadmeTest.printed(" + quoted(matcher.find() ? matcher.group(1) : "nothing")
                + ", () -> Example.main(arguments));\n";
    }

    private static String programOf(String page) {
        StringBuilder methods = new StringBuilder();
        StringBuilder body = new StringBuilder();
        Matcher matcher = BLOCK.matcher(page);
        while (matcher.find()) {
            String block = matcher.group(1);
            if (block.startsWith("public")) {
                methods.append("static ").append(block);
                body.append(printing(block));
            } else if (block.startsWith("static")) {
                methods.append(block);
            } else {
                body.append("{\n");
                for (String line : block.split("\n")) {
                    body.append(translated(line)).append("\n");
                }
                body.append("}\n");
            }
        }
        return "public final class ReadmeCalls {\n"
                + "static void due(String call, String due, Object got) { ReadmeTest.due(call, due, got); }\n"
                + methods + "public static void main(String[] arguments) {\n" + body + "}\n}\n";
    }

    private static void run(String program, Path directory) throws Exception {
        Path source = directory.resolve("ReadmeCalls.java");
        Files.writeString(source, program);
        JavaCompiler compiler = ToolProvider.getSystemJavaCompiler();
        String path = System.getProperty("java.class.path");
        if (compiler == null || compiler.run(null, System.out, System.out, "-d", directory.toString(), "-cp", path,
                source.toString()) != 0) {
            wrong++;
            System.out.println("README.md: its calls do not compile");
            return;
        }
        try (URLClassLoader loader = new URLClassLoader(new URL[] {directory.toUri().toURL()})) {
            loader.loadClass("ReadmeCalls").getMethod("main", String[].class).invoke(null, (Object) new String[0]);
        } catch (InvocationTargetException error) {
            wrong++;
            System.out.println("README.md: a call throws " + error.getCause());
        }
    }

    private static void delete(Path directory) throws IOException {
        try (var files = Files.list(directory)) {
            for (Path file : (Iterable<Path>) files::iterator) {
                Files.delete(file);
            }
        }
        Files.delete(directory);
    }

    public static void main(String[] arguments) throws Exception {
        String page = Files.readString(Path.of("README.md"));
        Path directory = Files.createTempDirectory("readme");
        run(programOf(page), directory);
        delete(directory);
        // Without this, a page whose calls are not found would pass.
        if (right < 50) {
            wrong++;
            System.out.println("README.md: only " + right + " answers");
        }
        System.out.println("readme: " + right + " right, " + wrong + " wrong");
        System.exit(wrong == 0 ? 0 : 1);
    }
}
