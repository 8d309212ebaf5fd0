import java.io.IOException;
import java.lang.reflect.InvocationTargetException;
import java.lang.reflect.Method;
import java.lang.reflect.Modifier;
import java.nio.charset.StandardCharsets;
import java.nio.file.DirectoryStream;
import java.nio.file.Files;
import java.nio.file.Path;
import java.util.HashMap;
import java.util.Map;
import java.util.Set;
import java.util.TreeSet;
import java.util.regex.Matcher;
import java.util.regex.Pattern;

/** What README.md says holds: the example is run line by line, and all that is named there is there. */
public final class ReadmeTest {
    private static final Path README = Path.of("README.md");
    private static final Path TESTS = Path.of("src/test/java");

    private static final Pattern BLOCK = Pattern.compile("(?s)```(\\w+)\n(.*?)```");
    private static final Pattern NAMED = Pattern.compile("`([^`\n]+)`");
    private static final Pattern CALL =
        Pattern.compile("(?:int (\\w+) = )?archive\\.(\\w+)\\((.*?)\\);(?:\\s+// ([^:]+)(?::.*)?)?");

    private static final Map<String, Integer> numbers = new HashMap<>();

    public static void main(String[] args) throws IOException {
        String text = Files.readString(README, StandardCharsets.UTF_8);
        String prose = BLOCK.matcher(text).replaceAll("");
        runExample(block(text, "java"));
        checkCalls(prose);
        checkThrown(prose);
        checkTestClasses(prose);
        checkPaths(prose);
        checkForgetting(prose);
        Check.due("the number of seeded runs is told",
            prose.contains(RandomRunsTest.RUNS + " seeded runs of up to " + RandomRunsTest.CALLS + " calls"), true);
        checkCommands(block(text, "sh"));
        Check.end("ReadmeTest");
    }

    private static String block(String text, String language) {
        Matcher blocks = BLOCK.matcher(text);
        while (blocks.find()) {
            if (blocks.group(1).equals(language)) {
                return blocks.group(2);
            }
        }
        return "";
    }

    private static Set<String> named(String prose, String pattern) {
        Set<String> found = new TreeSet<>();
        Matcher names = NAMED.matcher(prose);
        while (names.find()) {
            if (names.group(1).matches(pattern)) {
                found.add(names.group(1));
            }
        }
        return found;
    }

    private static void runExample(String example) {
        WordwardenArchive archive = new WordwardenArchive();
        String[] lines = example.split("\n");
        Check.due("the example makes an archive", lines[0], "WordwardenArchive archive = new WordwardenArchive();");
        for (int line = 1; line < lines.length; line++) {
            Matcher call = CALL.matcher(lines[line]);
            Check.due("a line of the example is a call: " + lines[line], call.matches(), true);
            if (call.matches()) {
                runLine(archive, call);
            }
        }
        Check.due("the example has calls", lines.length > 1, true);
    }

    private static void runLine(WordwardenArchive archive, Matcher call) {
        String answer = String.valueOf(answer(archive, call.group(2), call.group(3)));
        if (call.group(1) != null && answer.matches("-?\\d+")) {
            numbers.put(call.group(1), Integer.valueOf(answer));
        }
        if (call.group(4) != null) {
            Check.due(call.group(), answer, call.group(4).trim());
        } else {
            Check.due(call.group() + " is answered", answer.matches("-?\\d+|true|false"), true);
        }
    }

    private static Object answer(WordwardenArchive archive, String name, String told) {
        String[] texts = told.isEmpty() ? new String[0] : told.split(", ");
        try {
            Method method = method(name);
            Class<?>[] types = method.getParameterTypes();
            Object[] values = new Object[texts.length];
            for (int place = 0; place < texts.length && place < types.length; place++) {
                values[place] = value(texts[place], types[place]);
            }
            return method.invoke(archive, values);
        } catch (InvocationTargetException thrown) {
            return "throws." + thrown.getCause().getClass().getSimpleName();
        } catch (IllegalAccessException | IllegalArgumentException thrown) {
            return "no such call: " + thrown.getMessage();
        }
    }

    private static Method method(String name) {
        for (Method method : WordwardenArchive.class.getDeclaredMethods()) {
            if (Modifier.isPublic(method.getModifiers()) && method.getName().equals(name)) {
                return method;
            }
        }
        throw new IllegalArgumentException(name);
    }

    private static Object value(String text, Class<?> type) {
        if (type == boolean.class) {
            return Boolean.valueOf(text);
        }
        return numbers.containsKey(text) ? numbers.get(text) : Integer.valueOf(text);
    }

    private static void checkCalls(String prose) {
        Set<String> calls = new TreeSet<>();
        for (Method method : WordwardenArchive.class.getDeclaredMethods()) {
            if (Modifier.isPublic(method.getModifiers())) {
                calls.add(method.getName());
            }
        }
        Set<String> told = named(prose, "[a-z]\\w+");
        told.removeAll(Set.of("javac", "java", "bash", "throws"));
        Check.due("the calls that are named", told, calls);
    }

    private static void checkThrown(String prose) {
        Set<String> thrown = new TreeSet<>();
        for (Method method : WordwardenArchive.class.getDeclaredMethods()) {
            for (Class<?> kind : method.getExceptionTypes()) {
                thrown.add(kind.getSimpleName());
            }
        }
        Check.due("the exceptions that are named", named(prose, "\\w+Exception"), thrown);
    }

    private static void checkTestClasses(String prose) throws IOException {
        Set<String> there = new TreeSet<>();
        try (DirectoryStream<Path> files = Files.newDirectoryStream(TESTS, "*Test.java")) {
            for (Path file : files) {
                there.add(file.getFileName().toString().replace(".java", ""));
            }
        }
        Check.due("the test classes that are named", named(prose, "\\w+Test"), there);
        for (String helper : named(prose, "Picture|Reference|Refusal")) {
            Check.due(helper + " is there", Files.exists(TESTS.resolve(helper + ".java")), true);
        }
    }

    private static void checkPaths(String prose) {
        Set<String> paths = named(prose, "[.\\w]+(/[.\\w]+)+");
        Check.due("paths are named", paths.contains(".ci/run") && paths.contains("../shared/tests"), true);
        for (String path : paths) {
            Check.due(path + " is there", Files.exists(Path.of(path)), true);
        }
    }

    /** Which calls forget what was chosen is told in one sentence; each call that changes is tried. */
    private static void checkForgetting(String prose) {
        int end = prose.indexOf(" make the edition forget");
        int start = prose.lastIndexOf("\n\n", Math.max(end, 0));
        Set<String> told = named(end < 0 ? "" : prose.substring(start, end), "\\w+");
        Set<String> forgets = new TreeSet<>();
        String[] calls = {
            "setNormal(3, 3)", "addWitness()", "addWord(1, 9)", "correct(1, 0, -1)", "use(1, false)", "setBase(0)",
            "setLine(5)", "addLost()", "setParents(0, -1, -1)",
        };
        for (String call : calls) {
            WordwardenArchive archive = ArchiveTests.make(new int[] {1}, new int[] {2});
            archive.choose(0, 1);
            String name = call.substring(0, call.indexOf('('));
            answer(archive, name, call.substring(name.length() + 1, call.length() - 1));
            if (archive.choose(0, 0) == 0) {
                forgets.add(name);
            }
        }
        Check.due("the calls that make the edition forget", told, forgets);
    }

    private static void checkCommands(String commands) {
        Check.due("how to run one test by itself", commands.contains("java -cp built PromiseTest"), true);
        Check.due("how to compile it",
            commands.contains("javac -d built src/main/java/WordwardenArchive.java src/test/java/*.java"), true);
    }
}
