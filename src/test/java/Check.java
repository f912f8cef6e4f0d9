/** Counts what is not as due; a test ends with exit code 1 if there was any. */
final class Check {
    interface Call {
        Object make();
    }

    private static int wrong = 0;
    private static int made = 0;

    private Check() {
    }

    static void same(String what, long got, long due) {
        tell(got == due, what + " answered " + got + ", due is " + due);
    }

    static void same(String what, boolean got, boolean due) {
        tell(got == due, what + " answered " + got + ", due is " + due);
    }

    static void same(String what, char got, char due) {
        tell(got == due, what + " answered '" + got + "', due is '" + due + "'");
    }

    static void same(String what, double got, double due) {
        tell(got == due, what + " answered " + got + ", due is " + due);
    }

    static void alike(String what, Object got, Object due) {
        tell(String.valueOf(got).equals(String.valueOf(due)), what + " answered " + got + ", due is " + due);
    }

    static void holds(String what, boolean so) {
        tell(so, what);
    }

    /** The exception itself is due, not a class below it: those are what the machine throws. */
    static void thrown(String what, Class<? extends RuntimeException> due, Call call) {
        Object answer = null;
        RuntimeException thrown = null;
        try {
            answer = call.make();
        } catch (RuntimeException e) {
            thrown = e;
        }
        tell(thrown != null && thrown.getClass() == due && isOwn(thrown),
                what + (thrown == null ? " answered " + answer : " threw " + thrown) + ", due is " + due.getName());
    }

    /** Whether the program threw it by a statement of its own. */
    static boolean isOwn(RuntimeException thrown) {
        StackTraceElement[] trace = thrown.getStackTrace();
        return trace.length > 0 && trace[0].getClassName().startsWith("DeepiceWatch")
                && !"/ by zero".equals(thrown.getMessage());
    }

    private static void tell(boolean good, String text) {
        made++;
        if (!good) {
            wrong++;
            if (wrong <= 40) {
                System.out.println("WRONG: " + text);
            }
        }
    }

    static void end() {
        System.out.println(made + " checks, " + wrong + " wrong");
        if (wrong != 0 || made == 0) {
            System.exit(1);
        }
    }
}
