/** Counts and prints the calls whose answers are not those that are due. */
final class Check {

    interface Call {
        Object answer();
    }

    private static int wrong = 0;
    private static int calls = 0;

    private Check() {
    }

    static void due(String call, Object got, Object want) {
        calls++;
        if (!want.equals(got)) {
            wrong++;
            System.out.println(call + " answered " + got + ", due is " + want);
        }
    }

    static void refused(String call, Class<? extends RuntimeException> want, Call body) {
        due(call, outcome(body), want.getSimpleName());
    }

    /** The answer of a call as a text, or the name of what it throws. */
    static String outcome(Call body) {
        try {
            return String.valueOf(body.answer());
        } catch (RuntimeException thrown) {
            return thrown.getClass().getSimpleName();
        }
    }

    /** Ends the test, with exit code 1 if an answer was wrong. */
    static void end(String name) {
        System.out.println(name + ": " + calls + " answers, " + wrong + " wrong");
        if (wrong != 0) {
            System.exit(1);
        }
    }
}
