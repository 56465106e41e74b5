/** What all tests of the project use to compare an answer with the one that is due. */
final class Check {
    static final String ARGUMENT = "throws.IllegalArgumentException";
    static final String STATE = "throws.IllegalStateException";

    interface Call {
        long answer();
    }

    private static int wrong = 0;

    private Check() {
    }

    /** A call's answer, or the name of what it throws behind "throws.". */
    static String answer(Call call) {
        try {
            return Long.toString(call.answer());
        } catch (RuntimeException e) {
            return "throws." + e.getClass().getSimpleName();
        }
    }

    static void due(String what, String want, String got) {
        if (!want.equals(got)) {
            wrong++;
            System.out.println(what + " answered " + got + ", due is " + want);
        }
    }

    static void due(String what, long want, Call call) {
        due(what, Long.toString(want), answer(call));
    }

    static void argument(String what, Call call) {
        due(what, ARGUMENT, answer(call));
    }

    static void state(String what, Call call) {
        due(what, STATE, answer(call));
    }

    static int wrongSoFar() {
        return wrong;
    }

    static void end() {
        System.out.println(wrong == 0 ? "all answers are as due" : wrong + " answers are not as due");
        System.exit(wrong == 0 ? 0 : 1);
    }
}
