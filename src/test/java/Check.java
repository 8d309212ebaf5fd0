import java.lang.reflect.InvocationTargetException;
import java.lang.reflect.Method;
import java.util.Map;
import java.util.TreeMap;

/** Counts what is not as due; each test class ends with its end(). */
final class Check {
    private static int wrong = 0;
    private static int done = 0;
    private static String running = "";

    private Check() {
    }

    interface Call {
        Object answer();
    }

    /** Runs each method of a test class whose name begins with "promise", so that none can be left out. */
    static void runPromises(Class<?> tests) {
        Map<String, Method> found = new TreeMap<>();
        for (Method method : tests.getDeclaredMethods()) {
            if (method.getName().startsWith("promise")) {
                found.put(method.getName(), method);
            }
        }
        for (Map.Entry<String, Method> test : found.entrySet()) {
            runOne(test.getKey(), test.getValue());
        }
        running = "";
        due("there are tests in " + tests.getName(), found.isEmpty(), false);
        end(tests.getName() + ", " + found.size() + " tests");
    }

    private static void runOne(String name, Method test) {
        int before = done;
        running = name + ": ";
        try {
            test.invoke(null);
        } catch (InvocationTargetException thrown) {
            due("ends by itself", thrown.getCause(), "no exception");
        } catch (IllegalAccessException thrown) {
            due("can be called", thrown, "no exception");
        }
        due("has checks", done > before, true);
    }

    static void due(String what, Object got, Object want) {
        done++;
        if (!want.equals(got)) {
            wrong++;
            System.out.println(running + what + " answered " + got + ", due is " + want);
        }
    }

    /** The name of what the call throws behind "throws.", or what it answers. */
    static String outcome(Call call) {
        try {
            return String.valueOf(call.answer());
        } catch (RuntimeException thrown) {
            return isWritten(thrown) ? "throws." + thrown.getClass().getSimpleName() : "machine." + thrown;
        }
    }

    /** Whether the class itself wrote the throw: the machine's own exceptions bear other classes and messages. */
    private static boolean isWritten(RuntimeException thrown) {
        StackTraceElement[] trace = thrown.getStackTrace();
        String message = String.valueOf(thrown.getMessage());
        return trace.length > 0 && trace[0].getClassName().equals("WordwardenArchive")
            && !message.startsWith("Index ") && !message.equals("/ by zero");
    }

    static void dueThrow(String what, Class<? extends RuntimeException> kind, Call call) {
        due(what, outcome(call), "throws." + kind.getSimpleName());
    }

    static void end(String name) {
        System.out.println(name + ": " + done + " checks, " + wrong + " wrong");
        if (wrong != 0 || done == 0) {
            System.exit(1);
        }
    }
}
