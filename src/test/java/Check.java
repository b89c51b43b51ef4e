/** Compares answers with those that are due, prints each difference, and ends a test with its exit code. */
final class Check {

    /** A call of the program. */
    interface Call {
        Object make();
    }

    /** A call of the program without an answer that matters. */
    interface Step {
        void make();
    }

    private static int asked;
    private static int wrong;

    private Check() {
    }

    /** The answer of the call must equal what is due, with the same type. */
    static void due(String what, Object want, Call call) {
        asked++;
        Object got = answerOf(call);
        if (!want.equals(got)) {
            wrong++;
            System.out.println(what + " answered " + got + ", due is " + want);
        }
    }

    /** The call must throw just this class, not one below it. */
    static void thrown(String what, Class<? extends RuntimeException> want, Step step) {
        due(what, want.getName(), () -> nameOfThrown(step));
    }

    static void end() {
        System.out.println(asked + " answers compared, " + wrong + " not as due");
        if (wrong != 0 || asked == 0) {
            System.exit(1);
        }
    }

    private static Object answerOf(Call call) {
        try {
            return call.make();
        } catch (RuntimeException e) {
            return e;
        }
    }

    private static String nameOfThrown(Step step) {
        try {
            step.make();
            return "nothing";
        } catch (RuntimeException e) {
            return e.getClass().getName();
        }
    }
}
