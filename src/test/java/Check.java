/** What all tests of the project share: comparing answers, counting wrong ones, ending with an exit code. */
final class Check {
    interface Call {
        long answer();
    }

    private static int asked = 0;
    private static int wrong = 0;

    private Check() {
    }

    static void due(String call, long got, long want) {
        asked++;
        if (got != want) {
            fail(call + " answered " + got + ", due is " + want);
        }
    }

    static void due(String call, String got, String want) {
        asked++;
        if (!got.equals(want)) {
            fail(call + " answered " + got + ", due is " + want);
        }
    }

    /** The call must throw exactly this exception; RefusalTest tells that it changes nothing. */
    static void dueThrow(String call, Class<? extends RuntimeException> kind, Call made) {
        due(call, answer(made), kind.getName());
    }

    /** What the call answers, or the name of the exception that it throws. */
    static String answer(Call made) {
        try {
            return Long.toString(made.answer());
        } catch (RuntimeException e) {
            return e.getClass().getName();
        }
    }

    static void fail(String what) {
        wrong++;
        System.out.println(what);
    }

    static void finish() {
        System.out.println(asked + " answers looked at, " + wrong + " of them wrong");
        if (wrong != 0 || asked == 0) {
            System.exit(1);
        }
    }
}
