/** Counts what a test looked at and what was wrong; end() makes the exit code of it. */
final class Check {
    /** A call whose answer is looked at. */
    interface Call {
        Object go();
    }

    private final String title;
    private int looked;
    private int wrong;

    Check(String title) {
        this.title = title;
    }

    void same(String what, Object due, Object got) {
        looked++;
        if (!due.equals(got)) {
            wrong++;
            System.out.println(title + ": " + what + " answered " + got + ", due is " + due);
        }
    }

    void yes(String what, boolean got) {
        same(what, true, got);
    }

    /** The class must be the very one: a subclass is what the machine throws by itself. */
    void fails(String what, Class<? extends Throwable> due, Call call) {
        same(what, "throws " + due.getName(), outcome(call));
    }

    static String outcome(Call call) {
        try {
            return String.valueOf(call.go());
        } catch (Throwable thrown) {
            return told(thrown);
        }
    }

    /** An exception that the class did not throw itself is told as another one: a list's, say. */
    static String told(Throwable thrown) {
        StackTraceElement[] trace = thrown.getStackTrace();
        String where = trace.length < 1 ? "nowhere" : trace[0].getClassName();
        boolean own = where.startsWith("Shakerhall") || where.startsWith("Model");
        return "throws " + thrown.getClass().getName() + (own ? "" : " in " + where);
    }

    void end() {
        System.out.println(title + ": looked at " + looked + ", wrong " + wrong);
        if (wrong != 0 || looked == 0) {
            System.exit(1);
        }
    }
}
