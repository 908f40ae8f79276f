import java.io.IOException;
import java.io.UncheckedIOException;
import java.net.URL;
import java.net.URLClassLoader;
import java.nio.file.Files;
import java.nio.file.Path;
import java.util.ArrayList;
import java.util.HashSet;
import java.util.List;
import java.util.Set;
import java.util.regex.Matcher;
import java.util.regex.Pattern;
import java.util.stream.Stream;
import javax.tools.JavaCompiler;
import javax.tools.ToolProvider;

/**
 * The Java examples of README.md, made into a class that looks at what each of their calls answers. A line
 * is "x.call(..);   // answer", with ": words" behind the answer or without.
 */
final class ReadmeExamples {
    private static final String NEW_OBJECT = "TableMachine x = new TableMachine();";
    private static final Pattern LINE = Pattern.compile("((?:int|long|boolean) (\\w+) = )?(x\\.(\\w+)\\(.*\\));(?: +// (true|false|-?\\d+|throws \\w+)(?:: .+)?)?");

    final Set<String> called = new HashSet<>();
    final List<String> unclear = new ArrayList<>();
    private final StringBuilder source = new StringBuilder();
    private int examples = 0;

    ReadmeExamples(List<String> readme) {
        source.append("public final class Examples {\n"
            + "    private static final java.util.List<String[]> told = new java.util.ArrayList<>();\n"
            + "    private static void tell(String line, Object due, Object got) {\n"
            + "        told.add(new String[] {line, due.toString(), got.toString()});\n    }\n");
        boolean inside = false;
        for (String line : readme) {
            if (line.equals("```java")) {
                inside = true;
                source.append("    private static void example").append(examples).append("() {\n");
                examples++;
            } else if (inside && line.equals("```")) {
                inside = false;
                source.append("    }\n");
            } else if (inside) {
                write(line);
            }
        }
        source.append("    public static java.util.List<String[]> all() {\n");
        for (int i = 0; i < examples; i++) {
            source.append("        example").append(i).append("();\n");
        }
        source.append("        return told;\n    }\n}\n");
    }

    int size() {
        return examples;
    }

    private void write(String line) {
        Matcher m = LINE.matcher(line);
        if (line.isEmpty() || line.equals(NEW_OBJECT)) {
            source.append("        ").append(line).append('\n');
        } else if (!m.matches() || (m.group(5) == null) != m.group(4).equals("wipe")) {
            unclear.add(line);
        } else {
            called.add(m.group(4));
            writeCall(m, "\"" + line.replace("\\", "\\\\").replace("\"", "\\\"") + "\"");
        }
    }

    private void writeCall(Matcher m, String line) {
        String call = m.group(3);
        if (m.group(5) == null) {
            source.append("        ").append(call).append(";\n");
            return;
        }
        String tell = "tell(" + line + ", \"" + m.group(5) + "\", ";
        if (m.group(1) != null) {
            source.append("        ").append(m.group(1)).append(call).append(";\n        ").append(tell).append(m.group(2)).append(");\n");
            return;
        }
        source.append("        try {\n            ").append(tell).append(call).append(");\n        } catch (RuntimeException e) {\n            ")
            .append(tell).append("\"throws \" + e.getClass().getSimpleName());\n        }\n");
    }

    /** Of each call its line, the answer that is told and the one that came. */
    List<?> answers() throws IOException, ReflectiveOperationException {
        Path folder = Files.createTempDirectory("readme");
        try {
            Path file = Files.writeString(folder.resolve("Examples.java"), source);
            JavaCompiler javac = ToolProvider.getSystemJavaCompiler();
            int failed = javac.run(null, null, null, "--release", "17", "-d", folder.toString(), "-cp", System.getProperty("java.class.path"), file.toString());
            if (failed != 0) {
                unclear.add("an example can't be compiled");
                return List.of();
            }
            try (URLClassLoader loader = new URLClassLoader(new URL[] {folder.toUri().toURL()})) {
                return (List<?>) loader.loadClass("Examples").getMethod("all").invoke(null);
            }
        } finally {
            remove(folder);
        }
    }

    private static void remove(Path folder) throws IOException {
        try (Stream<Path> files = Files.list(folder)) {
            for (Path file : files.toList()) {
                Files.delete(file);
            }
        } catch (UncheckedIOException e) {
            throw e.getCause();
        }
        Files.delete(folder);
    }
}
