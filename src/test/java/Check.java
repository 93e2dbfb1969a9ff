/** What the tests of the project share: they count wrong answers, and end with exit code 1 on any. */
final class Check {
    /** What came of a call: its answer, or the exception's class. */
    interface Call {
        long run();
    }

    private static int wrong;
    private static int seen;

    private Check() { }

    static String outcome(Call call) {
        try {
            return Long.toString(call.run());
        } catch (RuntimeException e) {
            return "throws " + e.getClass().getSimpleName();
        }
    }

    static void same(String name, String got, String want) {
        seen++;
        if (!got.equals(want)) {
            wrong++;
            if (wrong <= 40) {
                System.out.println(name + " answered " + got + ", due is " + want);
            }
        }
    }

    /** For long texts, of which only what is about the first difference is told. */
    static void alike(String name, String got, String want) {
        int at = 0;
        while (at < Math.min(got.length(), want.length()) && got.charAt(at) == want.charAt(at)) {
            at++;
        }
        boolean same = got.equals(want);
        same(name, same ? "" : about(got, at), same ? "" : about(want, at));
    }

    private static String about(String text, int at) {
        return at + " " + text.substring(Math.max(0, at - 40), Math.min(text.length(), at + 40));
    }

    static void due(String name, Call call, long want) {
        same(name, outcome(call), Long.toString(want));
    }

    static void holds(String name, boolean what) {
        same(name, Boolean.toString(what), "true");
    }

    /** The exact class: one of the machine's own, below it, would be wrong. */
    static void thrown(String name, Call call, Class<? extends RuntimeException> want) {
        same(name, outcome(call), "throws " + want.getSimpleName());
    }

    static void end() {
        System.out.println(wrong == 0 ? seen + " checks hold" : wrong + " of " + seen + " checks fail");
        if (wrong != 0) {
            System.exit(1);
        }
    }
}
