import java.io.IOException;
import java.lang.reflect.Constructor;
import java.lang.reflect.Method;
import java.lang.reflect.Modifier;
import java.nio.file.Files;
import java.nio.file.Path;
import java.util.ArrayList;
import java.util.List;
import java.util.Set;
import java.util.TreeSet;
import java.util.regex.Matcher;
import java.util.regex.Pattern;

/** The public face: the class of the document, to the word and in its order, and nothing else that can be seen. */
public final class FaceTest {
    private static final Path SOURCE = Path.of("src/main/java/EscapadeHouse.java");

    /** As the document writes it. */
    private static final String FACE = """
            public final class EscapadeHouse {
                public EscapadeHouse();
                public int addPlace() throws IllegalStateException, UnsupportedOperationException;
                public int setEnd(int place) throws IndexOutOfBoundsException, IllegalStateException;
                public int addDoor(int from, int to, int lock, boolean isSlamming) throws IndexOutOfBoundsException,\
             IllegalArgumentException, IllegalStateException, UnsupportedOperationException;
                public int addProp(int place, int lock, int fact) throws IndexOutOfBoundsException,\
             IllegalArgumentException, IllegalStateException, UnsupportedOperationException;
                public int addKeyLock(int place, int prop, boolean isBreaking) throws IndexOutOfBoundsException,\
             IllegalArgumentException, IllegalStateException, UnsupportedOperationException;
                public int addLock(char kind, int place, int set) throws IllegalArgumentException,\
             IndexOutOfBoundsException, IllegalStateException, UnsupportedOperationException;
                public int addSwitch(int place) throws IndexOutOfBoundsException, IllegalStateException,\
             UnsupportedOperationException;
                public int infer(int facts, int fact) throws IllegalArgumentException, IllegalStateException,\
             UnsupportedOperationException;
                public boolean act(int act) throws IllegalArgumentException, UnsupportedOperationException;
                public int reset();
                public int place();
                public boolean knows(int fact) throws IllegalArgumentException;
                public char propAt(int prop) throws IndexOutOfBoundsException;
                public boolean isOpen(int lock) throws IndexOutOfBoundsException;
                public boolean can(int act) throws IllegalArgumentException;
                public int states() throws UnsupportedOperationException;
                public int deadEnds() throws UnsupportedOperationException;
                public int wayLeft() throws UnsupportedOperationException, NoSuchElementException;
                public boolean canIn(int acts) throws IllegalArgumentException;
                public int hint() throws UnsupportedOperationException, NoSuchElementException, IllegalStateException;
                public boolean isWrong(int act) throws IllegalArgumentException, UnsupportedOperationException;
                public boolean setSensor(int lock, boolean works) throws IndexOutOfBoundsException;
                public char seen(int lock) throws IndexOutOfBoundsException;
                public long checksum();
                public float knownShare();
                public double meanWay() throws UnsupportedOperationException, ArithmeticException;
                public boolean isSound();
            }
            """;

    private static final Check check = new Check();

    public static void main(String[] args) throws IOException {
        List<String> face = headersIn(FACE);
        List<String> source = headersIn(Files.readString(SOURCE));
        check.due("headers in the source", face, () -> source);
        check.due("members that are compiled", withoutNames(face), FaceTest::membersToBeSeen);
        check.due("fields that can be seen", List.of(), FaceTest::fieldsToBeSeen);
        check.due("classes inside that can be seen from outside", List.of(), FaceTest::classesToBeSeen);
        check.due("what it extends", Object.class, EscapadeHouse.class::getSuperclass);
        check.due("what it implements", 0, () -> EscapadeHouse.class.getInterfaces().length);
        check.due("private methods with a public one's name", Set.of(), () -> namesTakenTwice(EscapadeHouse.class));
        for (Class<?> inside : EscapadeHouse.class.getDeclaredClasses()) {
            check.due("methods of " + inside + " with a public one's name", Set.of(), () -> namesTakenTwice(inside));
        }
        check.end();
    }

    /** All that is public, each with its words one space apart. */
    private static List<String> headersIn(String code) {
        List<String> headers = new ArrayList<>();
        Matcher matcher = Pattern.compile("(?m)^ *((?:public|protected)\\b[^;{]*)[;{]").matcher(code);
        while (matcher.find()) {
            headers.add(matcher.group(1).strip().replaceAll("\\s+", " "));
        }
        return headers;
    }

    private static Set<String> withoutNames(List<String> headers) {
        Set<String> members = new TreeSet<>();
        for (String header : headers) {
            if (header.contains("(")) {
                members.add(header.replaceAll("(int|char|boolean) \\w+(?=[,)])", "$1"));
            }
        }
        return members;
    }

    private static Set<String> membersToBeSeen() {
        Set<String> members = new TreeSet<>();
        for (Constructor<?> constructor : EscapadeHouse.class.getDeclaredConstructors()) {
            members.add(Modifier.toString(constructor.getModifiers()) + " EscapadeHouse("
                    + names(constructor.getParameterTypes()) + ")" + thrown(constructor.getExceptionTypes()));
        }
        for (Method method : EscapadeHouse.class.getDeclaredMethods()) {
            if (!Modifier.isPrivate(method.getModifiers()) && !method.isSynthetic()) {
                members.add(Modifier.toString(method.getModifiers()) + " " + method.getReturnType().getSimpleName()
                        + " " + method.getName() + "(" + names(method.getParameterTypes()) + ")"
                        + thrown(method.getExceptionTypes()));
            }
        }
        return members;
    }

    private static List<String> fieldsToBeSeen() {
        List<String> seen = new ArrayList<>();
        for (var field : EscapadeHouse.class.getDeclaredFields()) {
            if (!Modifier.isPrivate(field.getModifiers()) && !field.isSynthetic()) {
                seen.add(field.getName());
            }
        }
        return seen;
    }

    /** Those that can be seen, or hold on to an object of the outer class. */
    private static List<String> classesToBeSeen() {
        List<String> seen = new ArrayList<>();
        for (Class<?> inside : EscapadeHouse.class.getDeclaredClasses()) {
            int modifiers = inside.getModifiers();
            if (Modifier.isPublic(modifiers) || Modifier.isProtected(modifiers) || !Modifier.isStatic(modifiers)) {
                seen.add(inside.getSimpleName());
            }
        }
        return seen;
    }

    private static Set<String> namesTakenTwice(Class<?> owner) {
        Set<String> publicNames = new TreeSet<>();
        for (Method method : EscapadeHouse.class.getMethods()) {
            if (method.getDeclaringClass() == EscapadeHouse.class) {
                publicNames.add(method.getName());
            }
        }
        Set<String> taken = new TreeSet<>();
        for (Method method : owner.getDeclaredMethods()) {
            if (owner != EscapadeHouse.class || Modifier.isPrivate(method.getModifiers())) {
                taken.add(method.getName());
            }
        }
        taken.retainAll(publicNames);
        return taken;
    }

    private static String thrown(Class<?>[] exceptions) {
        return exceptions.length == 0 ? "" : " throws " + names(exceptions);
    }

    private static String names(Class<?>[] types) {
        List<String> names = new ArrayList<>();
        for (Class<?> type : types) {
            names.add(type.getSimpleName());
        }
        return String.join(", ", names);
    }
}
