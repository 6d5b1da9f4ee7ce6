import java.io.IOException;
import java.net.URL;
import java.net.URLClassLoader;
import java.nio.file.Files;
import java.nio.file.Path;
import java.util.ArrayList;
import java.util.List;
import java.util.Set;
import java.util.TreeSet;
import java.util.regex.Matcher;
import java.util.regex.Pattern;
import javax.tools.ToolProvider;

/** README.md: its calls, made from the first to the last, answer as it says; run from the project's own folder. */
public final class ReadmeTest {
    private static final Path README = Path.of("README.md");

    private static final Pattern BLOCK = Pattern.compile("(?s)```java\\n(.*?)```");

    /** A call, perhaps what it is kept as, and what it answers, up to a colon. */
    private static final Pattern CALL =
            Pattern.compile("((?:int (\\w+) = )?(house\\..*));  +// (throws \\w+|[^:]+)(?::.*)?");

    private static final Check check = new Check();

    public static void main(String[] args) throws Exception {
        List<String> lines = lines(Files.readString(README));
        List<Matcher> calls = new ArrayList<>();
        StringBuilder code = new StringBuilder();
        for (String line : lines) {
            Matcher call = CALL.matcher(line);
            code.append(call.matches() ? noting(call) : line).append('\n');
            if (call.matches()) {
                calls.add(call);
            }
        }
        List<?> answers = answersOf(code.toString());
        check.due("number of answers", calls.size(), answers::size);
        for (int i = 0; i < calls.size() && i < answers.size(); i++) {
            Object answer = answers.get(i);
            check.due(calls.get(i).group(1), calls.get(i).group(4), () -> answer);
        }
        check.due("methods that it shows", methods(), () -> methodsIn(lines));
        check.end();
    }

    private static List<String> lines(String page) {
        List<String> lines = new ArrayList<>();
        Matcher block = BLOCK.matcher(page);
        while (block.find()) {
            for (String line : block.group(1).split("\n")) {
                if (!line.isBlank()) {
                    lines.add(line);
                }
            }
        }
        return lines;
    }

    private static String noting(Matcher call) {
        if (call.group(2) != null) {
            return call.group(1) + "; answers.add(text(" + call.group(2) + "));";
        }
        return "try { answers.add(text(" + call.group(3) + ")); }"
                + " catch (RuntimeException e) { answers.add(\"throws \" + e.getClass().getSimpleName()); }";
    }

    private static List<?> answersOf(String code) throws Exception {
        Path folder = Files.createTempDirectory("readme");
        Path source = folder.resolve("ReadmeCalls.java");
        Files.writeString(source, """
                public final class ReadmeCalls {
                    private static String text(char sign) {
                        return "'" + sign + "'";
                    }

                    private static String text(Object answer) {
                        return answer.toString();
                    }

                    public static java.util.List<String> answers() {
                        java.util.List<String> answers = new java.util.ArrayList<>();
                """ + code + "return answers; } }");
        int failed = ToolProvider.getSystemJavaCompiler().run(null, null, null,
                "-cp", System.getProperty("java.class.path"), "-d", folder.toString(), source.toString());
        check.due("compiling it", 0, () -> failed);
        try (URLClassLoader loader = new URLClassLoader(new URL[] {folder.toUri().toURL()})) {
            return (List<?>) loader.loadClass("ReadmeCalls").getMethod("answers").invoke(null);
        } finally {
            deleteAll(folder);
        }
    }

    private static void deleteAll(Path folder) throws IOException {
        try (var files = Files.list(folder)) {
            for (Path file : files.toList()) {
                Files.delete(file);
            }
        }
        Files.delete(folder);
    }

    private static Set<String> methods() {
        Set<String> methods = new TreeSet<>();
        for (var method : EscapadeHouse.class.getMethods()) {
            if (method.getDeclaringClass() == EscapadeHouse.class) {
                methods.add(method.getName());
            }
        }
        return methods;
    }

    private static Set<String> methodsIn(List<String> lines) {
        Set<String> methods = new TreeSet<>();
        for (String line : lines) {
            Matcher matcher = Pattern.compile("house\\.(\\w+)\\(").matcher(line);
            while (matcher.find()) {
                methods.add(matcher.group(1));
            }
        }
        return methods;
    }
}
