import java.lang.reflect.Field;
import java.lang.reflect.Method;
import java.lang.reflect.Modifier;
import java.util.Arrays;
import java.util.Set;
import java.util.TreeSet;

/** The public face: each promise's method with its types and exceptions, and nothing else that can be seen. */
public final class FaceTest {
    private static final Check check = new Check();

    private static final String[] FACE = {
        "int addPlace() IllegalStateException UnsupportedOperationException",
        "int setEnd(int) IndexOutOfBoundsException IllegalStateException",
        "int addDoor(int int int boolean) IndexOutOfBoundsException IllegalArgumentException IllegalStateException"
                + " UnsupportedOperationException",
        "int addProp(int int int) IndexOutOfBoundsException IllegalArgumentException IllegalStateException"
                + " UnsupportedOperationException",
        "int addKeyLock(int int boolean) IndexOutOfBoundsException IllegalArgumentException IllegalStateException"
                + " UnsupportedOperationException",
        "int addLock(char int int) IllegalArgumentException IndexOutOfBoundsException IllegalStateException"
                + " UnsupportedOperationException",
        "int addSwitch(int) IndexOutOfBoundsException IllegalStateException UnsupportedOperationException",
        "int infer(int int) IllegalArgumentException IllegalStateException UnsupportedOperationException",
        "boolean act(int) IllegalArgumentException UnsupportedOperationException",
        "int reset()",
        "int place()",
        "boolean knows(int) IllegalArgumentException",
        "char propAt(int) IndexOutOfBoundsException",
        "boolean isOpen(int) IndexOutOfBoundsException",
        "boolean can(int) IllegalArgumentException",
        "int states() UnsupportedOperationException",
        "int deadEnds() UnsupportedOperationException",
        "int wayLeft() UnsupportedOperationException NoSuchElementException",
        "boolean canIn(int) IllegalArgumentException",
        "int hint() UnsupportedOperationException NoSuchElementException IllegalStateException",
        "boolean isWrong(int) IllegalArgumentException UnsupportedOperationException",
        "boolean setSensor(int boolean) IndexOutOfBoundsException",
        "char seen(int) IndexOutOfBoundsException",
        "long checksum()",
        "float knownShare()",
        "double meanWay() UnsupportedOperationException ArithmeticException",
        "boolean isSound()",
    };

    public static void main(String[] args) {
        check.due("class", Modifier.PUBLIC | Modifier.FINAL, EscapadeHouse.class::getModifiers);
        check.due("methods", new TreeSet<>(Arrays.asList(FACE)), FaceTest::methodsToBeSeen);
        check.due("constructors", "[public EscapadeHouse()]",
                () -> Arrays.toString(EscapadeHouse.class.getDeclaredConstructors()));
        check.due("fields", Set.of(), FaceTest::fieldsToBeSeen);
        check.end();
    }

    private static Set<String> methodsToBeSeen() {
        Set<String> seen = new TreeSet<>();
        for (Method method : EscapadeHouse.class.getDeclaredMethods()) {
            if (!Modifier.isPrivate(method.getModifiers()) && !method.isSynthetic()) {
                seen.add((method.getReturnType().getSimpleName() + " " + method.getName()
                        + "(" + names(method.getParameterTypes()) + ") " + names(method.getExceptionTypes())).strip());
            }
        }
        return seen;
    }

    private static Set<String> fieldsToBeSeen() {
        Set<String> seen = new TreeSet<>();
        for (Field field : EscapadeHouse.class.getDeclaredFields()) {
            if (!Modifier.isPrivate(field.getModifiers()) && !field.isSynthetic()) {
                seen.add(field.getName());
            }
        }
        return seen;
    }

    private static String names(Class<?>[] types) {
        StringBuilder names = new StringBuilder();
        for (Class<?> type : types) {
            names.append(names.length() == 0 ? "" : " ").append(type.getSimpleName());
        }
        return names.toString();
    }
}
