/** What all tests of the project share: comparing answers, counting wrong ones, ending with an exit code. */
final class Check {
    interface Call {
        long answer();
    }

    private static int asked = 0;
    private static int wrong = 0;

    private Check() {
    }

    static void due(String call, long got, long want) {
        asked++;
        if (got != want) {
            fail(call + " answered " + got + ", due is " + want);
        }
    }

    static void due(String call, String got, String want) {
        asked++;
        if (!got.equals(want)) {
            fail(call + " answered " + got + ", due is " + want);
        }
    }

    /** The call must throw exactly this exception, and leave everything that can be seen of x as it was. */
    static void dueThrow(ImpactPlate x, String call, Class<? extends RuntimeException> kind, Call made) {
        asked++;
        String before = Look.at(x);
        String got;
        try {
            got = "answered " + made.answer();
        } catch (RuntimeException e) {
            got = e.getClass() == kind ? "" : "threw " + e.getClass().getName();
        }
        if (!got.isEmpty()) {
            fail(call + " " + got + ", due is " + kind.getName());
        }
        if (!Look.at(x).equals(before)) {
            fail(call + " threw, but changed " + before + " to " + Look.at(x));
        }
    }

    static void fail(String what) {
        wrong++;
        System.out.println(what);
    }

    static void finish() {
        System.out.println(asked + " answers looked at, " + wrong + " of them wrong");
        if (wrong != 0 || asked == 0) {
            System.exit(1);
        }
    }
}
