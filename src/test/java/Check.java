import java.util.List;
import java.util.function.Function;
import java.util.function.Supplier;

/** Compares answers with what is due, prints each that differs, and ends the test with exit code 1 if there was one. */
final class Check {
    interface Call {
        Object answer();
    }

    private int wrong;

    /** An exception that is due is given by its class. */
    void due(String call, Object want, Call made) {
        Object got = answerOf(made);
        if (!want.equals(got)) {
            wrong++;
            System.out.println(call + " answered " + got + ", due is " + want);
        }
    }

    /** The call must throw so, and the house must answer on as one that was made alike, where nobody made the call. */
    void refused(String call, Class<?> want, Supplier<EscapadeHouse> maker, Function<EscapadeHouse, Object> made) {
        refused(call, want, maker, Account.of(maker.get()), made);
    }

    /** The same, for many calls on houses that are made alike: the account is one of such a house. */
    void refused(String call, Class<?> want, Supplier<EscapadeHouse> maker, List<String> account,
            Function<EscapadeHouse, Object> made) {
        EscapadeHouse house = maker.get();
        due(call, want, () -> made.apply(house));
        due(call + " changed something, which", "", () -> firstDifference(account, Account.of(house)));
    }

    static Object answerOf(Call made) {
        try {
            return made.answer();
        } catch (RuntimeException thrown) {
            return thrown.getClass();
        }
    }

    private static String firstDifference(List<String> want, List<String> got) {
        for (int i = 0; i < want.size(); i++) {
            if (!want.get(i).equals(got.get(i))) {
                return got.get(i) + " instead of " + want.get(i);
            }
        }
        return "";
    }

    boolean isRight() {
        return wrong == 0;
    }

    void end() {
        System.out.println(wrong == 0 ? "all answers are as due" : wrong + " answers are not as due");
        if (wrong != 0) {
            System.exit(1);
        }
    }
}
