/** What the tests of the project share: they count wrong answers, and end with exit code 1 on any. */
final class Check {
    /** What came of a call: its answer, or the exception's class. */
    interface Call {
        long run();
    }

    private static int wrong;
    private static int seen;

    private Check() { }

    static String outcome(Call call) {
        try {
            return Long.toString(call.run());
        } catch (RuntimeException e) {
            return "throws " + e.getClass().getSimpleName();
        }
    }

    static void same(String name, String got, String want) {
        seen++;
        if (!got.equals(want)) {
            wrong++;
            if (wrong <= 40) {
                System.out.println(name + " answered " + got + ", due is " + want);
            }
        }
    }

    static void due(String name, Call call, long want) {
        same(name, outcome(call), Long.toString(want));
    }

    static void holds(String name, boolean what) {
        same(name, Boolean.toString(what), "true");
    }

    /** The exact class: one of the machine's own, below it, would be wrong. */
    static void thrown(String name, Call call, Class<? extends RuntimeException> want) {
        same(name, outcome(call), "throws " + want.getSimpleName());
    }

    static void end() {
        System.out.println(wrong == 0 ? seen + " checks hold" : wrong + " of " + seen + " checks fail");
        if (wrong != 0) {
            System.exit(1);
        }
    }
}
