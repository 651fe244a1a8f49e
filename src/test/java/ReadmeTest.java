import java.io.IOException;
import java.lang.reflect.Method;
import java.lang.reflect.Modifier;
import java.net.URL;
import java.net.URLClassLoader;
import java.nio.file.Files;
import java.nio.file.Path;
import java.util.ArrayList;
import java.util.List;
import java.util.regex.Matcher;
import java.util.regex.Pattern;
import java.util.stream.Stream;
import javax.tools.JavaCompiler;
import javax.tools.ToolProvider;

/**
 * The examples of README.md, compiled as they stand there: a block that begins with "static" is a
 * method that the others use; each other one is run by itself, and each of its calls has to answer
 * the number behind "//". No call may stand there without one.
 */
public final class ReadmeTest {
    private static final Pattern BLOCK = Pattern.compile("(?ms)^```java\n(.*?)^```$");
    private static final Pattern MADE = Pattern.compile("GuessCalled man = new GuessCalled\\(\\);");
    private static final Pattern CALL = Pattern.compile("(.*\\));\\s+// (-?\\d+)\\b.*");
    private static final int MOST_CALLS = 512;

    private static int wrong = 0;
    private static int blocks = 0;

    private static void complain(String what) {
        wrong++;
        System.out.println("README.md: " + what);
    }

    /** Called by the examples too. */
    public static void due(String call, long got, long want) {
        if (got != want) {
            complain(call + " answered " + got + ", README.md says " + want);
        }
    }

    private static void writeBlock(String block, StringBuilder source) {
        source.append("public static void block").append(blocks).append("() {\n");
        blocks++;
        int calls = 0;
        for (String line : block.split("\n")) {
            Matcher call = CALL.matcher(line);
            if (call.matches()) {
                String told = call.group(1);
                calls += told.startsWith("tell(") ? told.length() : 1;
                source.append("ReadmeTest.due(\"").append(told.replace("\"", "\\\"")).append("\", ");
                source.append(told).append(", ").append(call.group(2)).append("L);\n");
            } else if (MADE.matcher(line).matches()) {
                source.append(line).append('\n');
            } else {
                complain("no answer is told for: " + line);
            }
        }
        source.append("}\n");
        if (calls > MOST_CALLS) {
            complain("an example may use its object for more than " + MOST_CALLS + " calls");
        }
    }

    private static String sourceOf(String page) {
        StringBuilder source = new StringBuilder("public final class ReadmeExamples {\n");
        Matcher found = BLOCK.matcher(page);
        while (found.find()) {
            if (found.group(1).startsWith("static ")) {
                source.append(found.group(1));
            } else {
                writeBlock(found.group(1), source);
            }
        }
        return source.append("}\n").toString();
    }

    private static void runExamples(String page) throws IOException, ReflectiveOperationException {
        Path folder = Files.createTempDirectory("readme");
        try {
            Path file = folder.resolve("ReadmeExamples.java");
            Files.writeString(file, sourceOf(page));
            JavaCompiler javac = ToolProvider.getSystemJavaCompiler();
            String classes = System.getProperty("java.class.path");
            if (javac == null || javac.run(null, null, null, "-cp", classes, "-d", folder.toString(), file.toString()) != 0) {
                complain("the examples do not compile");
                return;
            }
            try (URLClassLoader loader = new URLClassLoader(new URL[] {folder.toUri().toURL()})) {
                Class<?> examples = loader.loadClass("ReadmeExamples");
                for (int b = 0; b < blocks; b++) {
                    examples.getMethod("block" + b).invoke(null);
                }
            }
        } finally {
            remove(folder);
        }
    }

    private static void remove(Path folder) throws IOException {
        List<Path> files = new ArrayList<>();
        try (Stream<Path> all = Files.list(folder)) {
            all.forEach(files::add);
        }
        files.add(folder);
        for (Path file : files) {
            Files.delete(file);
        }
    }

    /** Each call heads one row of a table, with as many parameters as it has. */
    private static void everyCallIsTold(String page) {
        for (Method method : GuessCalled.class.getDeclaredMethods()) {
            if (Modifier.isPublic(method.getModifiers())) {
                Matcher row = Pattern.compile("(?m)^\\| `" + method.getName() + "\\(([^)]*)\\)` \\|").matcher(page);
                int rows = 0;
                while (row.find()) {
                    rows++;
                    int told = row.group(1).isEmpty() ? 0 : row.group(1).split(",").length;
                    due("how many parameters of " + method.getName(), method.getParameterCount(), told);
                }
                due("in how many rows stands " + method.getName(), rows, 1);
            }
        }
    }

    public static void main(String[] args) throws IOException, ReflectiveOperationException {
        String page = Files.readString(Path.of("README.md"));
        everyCallIsTold(page);
        runExamples(page);
        if (blocks == 0) {
            complain("there is no example");
        }
        System.out.println(wrong == 0 ? blocks + " examples: all answers are as README.md says" : wrong + " faults of README.md");
        if (wrong != 0) {
            System.exit(1);
        }
    }
}
