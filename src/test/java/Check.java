/** Compares answers and exceptions with those that are due, and prints each one that is not. */
class Check {
    /** One call of the face; the answer of a void call is null. */
    interface Call {
        Object answer();
    }

    private String heading = "";
    private int wrong = 0;
    private int checked = 0;

    /** What is printed ahead of each wrong answer from here on. */
    final void heading(String words) {
        heading = words;
    }

    final void due(String what, Object want, Call call) {
        compare(what, String.valueOf(want), outcome(call));
    }

    /** Asks for exactly this class, so that a subclass thrown by the machine is caught. */
    final void refused(String what, Class<? extends RuntimeException> want, Call call) {
        compare(what, "throws " + want.getName(), outcome(call));
    }

    final void compare(String what, String want, String got) {
        checked++;
        if (!want.equals(got)) {
            wrong++;
            System.out.println(heading + what + " answered " + got + ", due is " + want);
        }
    }

    static String outcome(Call call) {
        try {
            return String.valueOf(call.answer());
        } catch (RuntimeException thrown) {
            return "throws " + thrown.getClass().getName() + (isOfTheLibrary(thrown) ? " out of the library" : "");
        }
    }

    /** A list that is asked for a wrong index throws the very class that the document names. */
    private static boolean isOfTheLibrary(RuntimeException thrown) {
        StackTraceElement[] trace = thrown.getStackTrace();
        return trace.length > 0 && trace[0].getClassName().startsWith("java.");
    }

    final void end() {
        System.out.println(wrong == 0 ? checked + " answers are as due" : wrong + " of " + checked + " are not as due");
        if (wrong != 0) {
            System.exit(1);
        }
    }
}
