/** Counts what is not as due; each test class ends with its end(). */
final class Check {
    private static int wrong = 0;
    private static int done = 0;

    private Check() {
    }

    interface Call {
        Object answer();
    }

    static void due(String what, Object got, Object want) {
        done++;
        if (!want.equals(got)) {
            wrong++;
            System.out.println(what + " answered " + got + ", due is " + want);
        }
    }

    /** The name of what the call throws behind "throws.", or what it answers. */
    static String outcome(Call call) {
        try {
            return String.valueOf(call.answer());
        } catch (RuntimeException thrown) {
            return isWritten(thrown) ? "throws." + thrown.getClass().getSimpleName() : "machine." + thrown;
        }
    }

    /** Whether the class itself wrote the throw: the machine's own exceptions bear other classes and messages. */
    private static boolean isWritten(RuntimeException thrown) {
        StackTraceElement[] trace = thrown.getStackTrace();
        String message = String.valueOf(thrown.getMessage());
        return trace.length > 0 && trace[0].getClassName().equals("WordwardenArchive")
            && !message.startsWith("Index ") && !message.equals("/ by zero");
    }

    static void dueThrow(String what, Class<? extends RuntimeException> kind, Call call) {
        due(what, outcome(call), "throws." + kind.getSimpleName());
    }

    static void end(String name) {
        System.out.println(name + ": " + done + " checks, " + wrong + " wrong");
        if (wrong != 0 || done == 0) {
            System.exit(1);
        }
    }
}
