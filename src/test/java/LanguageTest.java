import java.io.IOException;
import java.nio.file.Files;
import java.nio.file.Path;
import java.util.Set;
import java.util.TreeSet;
import java.util.regex.Matcher;
import java.util.regex.Pattern;

/** What of LANGUAGE.md can be told from the words of the source alone; it is run from the project's own folder. */
public final class LanguageTest {
    private static final Path SOURCE = Path.of("src/main/java/EscapadeHouse.java");

    private static final Set<String> LIBRARY =
            Set.of("java.util.ArrayList", "java.util.Arrays", "java.util.NoSuchElementException");

    private static final Set<String> EXCEPTIONS = Set.of(
            "IllegalStateException", "IllegalArgumentException", "IndexOutOfBoundsException", "ArithmeticException",
            "UnsupportedOperationException", "NoSuchElementException");

    /** Each is kept, and the room refuses more than a few of it. */
    private static final Set<String> RECORDS = Set.of("Door", "Prop", "Lock", "Switch", "Inference");

    private static final Check check = new Check();

    public static void main(String[] args) throws IOException {
        String code = Files.readString(SOURCE)
                .replaceAll("(?s)/\\*.*?\\*/", "")
                .replaceAll("//[^\\n]*", "")
                .replaceAll("\"[^\"\\n]*\"", "\"\"");
        check.due("rule 1: package", false, () -> Pattern.compile("(?m)^package ").matcher(code).find());
        check.due("rule 4: imports", LIBRARY, () -> all("import (?:static )?([\\w.*]+);", code));
        check.due("rule 4: library calls", Set.of("Arrays.fill", "Integer.bitCount"),
                () -> all("\\b((?:Arrays|Integer|Long|Math|System|Character|Objects|Thread)\\.\\w+)", code));
        check.due("rule 5: static fields that are not final", Set.of(),
                () -> all("(?m)^\\s*((?:private )?static (?!final|class)[\\w\\[\\]]+ \\w+ *[=;])", code));
        check.due("rule 6: exceptions", EXCEPTIONS, () -> all("throw new (\\w+)\\(", code));
        check.due("rules 2, 6, 13: words that are not used", Set.of(),
                () -> all("(\\b(?:try|catch|finally|synchronized|assert|instanceof|volatile|native)\\b"
                        + "|->|::|\\bequals\\b|\\bhashCode\\b|\\btoString\\b)", code));
        check.due("rule 9: loops without a bound", Set.of(),
                () -> all("(while *\\(true\\)|for *\\( *;|\\bdo *\\{)", code));
        String methods = withoutMadeInConstructors(code);
        check.due("rule 12: rows made in a call", Set.of(), () -> all("new (\\w+ *\\[)", methods));
        check.due("rule 12: objects made in a call", RECORDS,
                () -> all("(?<!throw )new (\\w+) *(?:<[^>]*>)? *\\(", methods));
        check.end();
    }

    /** A field's initialiser and what the constructor sets are made once for each object. */
    private static String withoutMadeInConstructors(String code) {
        return code.replaceAll("(?m)^ *(?:private )?final [^\\n;]* = new [^\\n;]*;$", "")
                .replaceAll("(?s)public EscapadeHouse\\(\\) \\{.*?\\n    \\}\\n", "");
    }

    private static Set<String> all(String pattern, String code) {
        Set<String> found = new TreeSet<>();
        Matcher matcher = Pattern.compile(pattern).matcher(code);
        while (matcher.find()) {
            found.add(matcher.group(1));
        }
        return found;
    }
}
