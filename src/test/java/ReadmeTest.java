import java.io.IOException;
import java.lang.reflect.Method;
import java.lang.reflect.Modifier;
import java.net.URL;
import java.net.URLClassLoader;
import java.nio.file.Files;
import java.nio.file.Path;
import java.util.ArrayList;
import java.util.List;
import java.util.regex.Matcher;
import java.util.regex.Pattern;
import javax.tools.JavaCompiler;
import javax.tools.ToolProvider;

/** README.md's examples answer as they say, and its tables have each call of the face once, with what it takes. */
public final class ReadmeTest {
    private static final Pattern BLOCK = Pattern.compile("(?ms)^```java\\n(.*?)^```$");
    /** A call that may be given a name, and behind it what it answers. */
    private static final Pattern ASKED = Pattern.compile("(?:int (\\w+) = )?(.*);\\s+// (-?\\d+|true|false)(?::.*)?");
    private static final Pattern ROW = Pattern.compile("(?m)^ *\\| `(\\w+)\\(([^)]*)\\)` \\|");
    private static final Check CHECK = new Check("ReadmeTest");

    private final StringBuilder functions = new StringBuilder();
    private final StringBuilder statements = new StringBuilder();
    private final List<String> calls = new ArrayList<>();
    private final List<String> wants = new ArrayList<>();

    public static void main(String[] args) throws IOException, ReflectiveOperationException {
        String readme = Files.readString(Path.of(args[0], "README.md"));
        tables(readme);
        new ReadmeTest().examples(readme);
        CHECK.end();
    }

    private static void tables(String readme) {
        for (Method method : ShowRings.class.getDeclaredMethods()) {
            if (Modifier.isPublic(method.getModifiers())) {
                int rows = 0;
                Matcher row = ROW.matcher(readme);
                while (row.find()) {
                    int numbers = row.group(2).isEmpty() ? 0 : row.group(2).split(",").length;
                    boolean same = row.group(1).equals(method.getName()) && numbers == method.getParameterCount();
                    rows += same ? 1 : 0;
                }
                CHECK.due("rows for " + method.getName(), rows, 1);
            }
        }
    }

    private void examples(String readme) throws IOException, ReflectiveOperationException {
        Matcher block = BLOCK.matcher(readme);
        while (block.find()) {
            if (block.group(1).startsWith("/**")) {
                functions.append(block.group(1));
            } else {
                block.group(1).lines().filter(line -> !line.isBlank()).forEach(this::addLine);
            }
        }
        List<?> answers = answersOf("public final class Example {\n" + functions
                + "public static java.util.List<Object> answers() {\n"
                + "java.util.List<Object> all = new java.util.ArrayList<>();\n" + statements + "return all;\n}\n}\n");
        CHECK.due("answers", answers.size(), calls.size());
        CHECK.due("examples there", calls.size() > 50, true);
        for (int i = 0; i < answers.size() && i < calls.size(); i++) {
            String got = answers.get(i).toString();
            CHECK.due(calls.get(i) + " answers " + got + ", README.md says " + wants.get(i), got.equals(wants.get(i)), true);
        }
    }

    /** A line of an example; all but the one that makes the object say what they answer. */
    private void addLine(String line) {
        Matcher asked = ASKED.matcher(line);
        if (!asked.matches()) {
            CHECK.due("an answer told in: " + line, line.equals("ShowRings x = new ShowRings();"), true);
            statements.append(line).append('\n');
            return;
        }
        calls.add(asked.group(2));
        wants.add(asked.group(3));
        if (asked.group(1) == null) {
            statements.append("all.add(").append(asked.group(2)).append(");\n");
        } else {
            statements.append("int ").append(asked.group(1)).append(" = ").append(asked.group(2)).append(";\n");
            statements.append("all.add(").append(asked.group(1)).append(");\n");
        }
    }

    private static List<?> answersOf(String source) throws IOException, ReflectiveOperationException {
        Path folder = Files.createTempDirectory("readme");
        Path file = folder.resolve("Example.java");
        Path made = folder.resolve("Example.class");
        try {
            Files.writeString(file, source);
            JavaCompiler compiler = ToolProvider.getSystemJavaCompiler();
            int faults = compiler.run(null, null, null, "-cp", System.getProperty("java.class.path"),
                    "-d", folder.toString(), file.toString());
            CHECK.due("faults of javac in README.md's examples", faults, 0);
            if (faults != 0) {
                return List.of();
            }
            try (URLClassLoader loader = new URLClassLoader(new URL[] {folder.toUri().toURL()})) {
                return (List<?>) loader.loadClass("Example").getMethod("answers").invoke(null);
            }
        } finally {
            Files.deleteIfExists(made);
            Files.deleteIfExists(file);
            Files.deleteIfExists(folder);
        }
    }
}
