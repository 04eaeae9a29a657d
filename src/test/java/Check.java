/** Counts what a test found wrong and ends it by that. */
final class Check {
    interface Call {
        Object answer();
    }

    private static int wrong = 0;
    private static int asked = 0;

    private Check() {
    }

    static void due(String what, Object got, Object want) {
        asked++;
        if (!want.equals(got)) {
            wrong++;
            System.out.println(what + ": answered " + got + ", due is " + want);
        }
    }

    static void dueThrow(String what, Class<? extends RuntimeException> want, Call call) {
        due(what, outcomeOf(call), want.getSimpleName());
    }

    /** The answer of a call, or the simple name of the exception that it throws. */
    static Object outcomeOf(Call call) {
        try {
            return call.answer();
        } catch (RuntimeException thrown) {
            return nameOf(thrown);
        }
    }

    /** Prereqs throws by its own code alone; what a list or the machine throws in it is told apart. */
    static String nameOf(Throwable thrown) {
        StackTraceElement[] trace = thrown.getStackTrace();
        boolean isOwn = trace.length > 0 && trace[0].getClassName().startsWith("Prereqs")
                && !"/ by zero".equals(thrown.getMessage());
        return (isOwn ? "" : "not its own ") + thrown.getClass().getSimpleName();
    }

    static void end() {
        System.out.println(asked + " answers looked at, " + wrong + " wrong");
        System.exit(wrong == 0 ? 0 : 1);
    }
}
