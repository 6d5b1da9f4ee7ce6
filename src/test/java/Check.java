/** Compares answers with what is due, prints each that differs, and ends the test with exit code 1 if there was one. */
final class Check {
    interface Call {
        Object answer();
    }

    private int wrong;

    /** An exception that is due is given by its class. */
    void due(String call, Object want, Call made) {
        Object got = answerOf(made);
        if (!want.equals(got)) {
            wrong++;
            System.out.println(call + " answered " + got + ", due is " + want);
        }
    }

    static Object answerOf(Call made) {
        try {
            return made.answer();
        } catch (RuntimeException thrown) {
            return thrown.getClass();
        }
    }

    boolean isRight() {
        return wrong == 0;
    }

    void end() {
        System.out.println(wrong == 0 ? "all answers are as due" : wrong + " answers are not as due");
        if (wrong != 0) {
            System.exit(1);
        }
    }
}
