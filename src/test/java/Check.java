/** What the tests of the project compare with: each prints what is wrong and counts it. */
final class Check {
    interface Call {
        Object answer();
    }

    private static int checks = 0;
    private static int wrong = 0;

    private Check() {}

    static void same(String what, Object due, Object got) {
        checks++;
        if (!due.equals(got)) {
            wrong++;
            System.out.println(what + ": answered " + got + ", due is " + due);
        }
    }

    static void is(String what, long due, long got) {
        same(what, due, got);
    }

    static void yes(String what, boolean got) {
        same(what, true, got);
    }

    /** The very class counts: a class below it would be one that the machine throws. */
    static void refuses(String what, Class<? extends RuntimeException> due, Call call) {
        same(what, "throws " + due.getName(), outcome(call));
    }

    static Object outcome(Call call) {
        try {
            return call.answer();
        } catch (RuntimeException e) {
            return "throws " + e.getClass().getName();
        }
    }

    static void end() {
        System.out.println(checks + " checks, " + wrong + " wrong");
        if (wrong != 0) {
            System.exit(1);
        }
    }
}
