import java.io.IOException;
import java.lang.reflect.Constructor;
import java.lang.reflect.Field;
import java.lang.reflect.Method;
import java.lang.reflect.Modifier;
import java.nio.charset.StandardCharsets;
import java.nio.file.Files;
import java.nio.file.Path;
import java.util.ArrayList;
import java.util.Arrays;
import java.util.HashSet;
import java.util.List;
import java.util.Set;
import java.util.TreeSet;

/** The public face as the document writes it, and what of LANGUAGE.md a look at the class can tell. */
public final class FaceTest {
    private static final String STATE = " IllegalStateException";
    private static final String INDEX = " IndexOutOfBoundsException";
    private static final String ARGUMENT = " IllegalArgumentException";
    private static final String ELEMENT = " NoSuchElementException";

    private static final String[] FACE = {
        "int setNormal(int,int)" + ARGUMENT,
        "int addWitness()" + STATE,
        "int addWord(int,int)" + INDEX + ARGUMENT + STATE,
        "int correct(int,int,int)" + INDEX + ARGUMENT,
        "boolean use(int,boolean)" + INDEX,
        "int length(int)" + INDEX,
        "int wordAt(int,int)" + INDEX + ELEMENT,
        "int distance(int,int)" + INDEX,
        "int columns()",
        "int at(int,int)" + INDEX,
        "int readings(int)" + INDEX,
        "int readingOf(int,int)" + INDEX,
        "int reading(int,int)" + INDEX + ELEMENT,
        "int variants()",
        "int setBase(int)" + INDEX,
        "int noteColumn(int)" + INDEX,
        "int noteSize(int)" + INDEX,
        "int readBack(int,int)" + INDEX + ELEMENT,
        "int choose(int,int)" + INDEX + ELEMENT,
        "int setLine(int)" + ARGUMENT,
        "int editionLength()",
        "int lineOf(int)" + INDEX,
        "int addLost()" + STATE,
        "int setParents(int,int,int)" + INDEX + ARGUMENT + " UnsupportedOperationException",
        "int score(int)" + INDEX,
        "int scoreAnew(int)" + INDEX,
        "int thought(int,int)" + INDEX,
        "boolean isCoherent(int)" + INDEX,
        "int find(int,int)" + ARGUMENT,
        "long total()",
        "float variantShare() ArithmeticException",
        "double meanDistance() ArithmeticException",
        "boolean isSound()",
    };

    private static final String[] FORBIDDEN = {
        "\\bcatch\\b", "\\btry\\b", "\\bfinally\\b", "->", "::", "\\bsynchronized\\b", "\\bassert\\b", "@",
        "\\bdouble\\s*\\[", "\\bSystem\\b", "\\bvar\\b", "\\bpackage\\b", "Exact\\b", "\\bObject\\b",
        "\\bpublic static\\b", "\\bprotected\\b",
    };

    public static void main(String[] args) throws IOException {
        checkFace();
        checkHiddenMembers(WordwardenArchive.class);
        for (Class<?> inside : WordwardenArchive.class.getDeclaredClasses()) {
            checkInside(inside);
        }
        Check.due("classes in the file", WordwardenArchive.class.getDeclaredClasses().length <= 11, true);
        if (args.length > 0) {
            checkText(Files.readString(Path.of(args[0]), StandardCharsets.ISO_8859_1));
        }
        Check.end("FaceTest");
    }

    private static void checkFace() {
        Set<String> found = new TreeSet<>();
        for (Method method : WordwardenArchive.class.getDeclaredMethods()) {
            if (Modifier.isPublic(method.getModifiers())) {
                found.add(describe(method));
            }
        }
        Check.due("the public methods", found, new TreeSet<>(Arrays.asList(FACE)));
        Check.due("the class is public and final",
            WordwardenArchive.class.getModifiers() & (Modifier.PUBLIC | Modifier.FINAL),
            Modifier.PUBLIC | Modifier.FINAL);
        Constructor<?>[] makers = WordwardenArchive.class.getDeclaredConstructors();
        Check.due("the number of constructors", makers.length, 1);
        Check.due("the constructor is public and takes nothing",
            Modifier.isPublic(makers[0].getModifiers()) && makers[0].getParameterCount() == 0, true);
        Check.due("the class extends and implements nothing",
            WordwardenArchive.class.getSuperclass() == Object.class
                && WordwardenArchive.class.getInterfaces().length == 0, true);
    }

    private static String describe(Method method) {
        List<String> types = new ArrayList<>();
        for (Class<?> type : method.getParameterTypes()) {
            types.add(type.getSimpleName());
        }
        StringBuilder text = new StringBuilder();
        text.append(method.getReturnType().getSimpleName()).append(' ').append(method.getName());
        text.append('(').append(String.join(",", types)).append(')');
        for (Class<?> kind : method.getExceptionTypes()) {
            text.append(' ').append(kind.getSimpleName());
        }
        return text.toString();
    }

    private static Set<String> faceNames() {
        Set<String> names = new HashSet<>();
        for (String line : FACE) {
            names.add(line.substring(line.indexOf(' ') + 1, line.indexOf('(')));
        }
        return names;
    }

    private static void checkHiddenMembers(Class<?> type) {
        Set<String> names = faceNames();
        for (Method method : type.getDeclaredMethods()) {
            boolean isOfFace = Modifier.isPublic(method.getModifiers());
            Check.due(method + " is of the face or private",
                isOfFace || Modifier.isPrivate(method.getModifiers()), true);
            Check.due(method + " bears a name of its own", isOfFace || !names.contains(method.getName()), true);
        }
        for (Field field : type.getDeclaredFields()) {
            Check.due(field + " is private", Modifier.isPrivate(field.getModifiers()), true);
            checkField(field);
        }
    }

    private static void checkField(Field field) {
        boolean isStatic = Modifier.isStatic(field.getModifiers());
        Check.due(field + " is final if it is static", !isStatic || Modifier.isFinal(field.getModifiers()), true);
    }

    private static void checkInside(Class<?> inside) {
        Set<String> names = faceNames();
        Check.due(inside + " is static", Modifier.isStatic(inside.getModifiers()), true);
        for (Method method : inside.getDeclaredMethods()) {
            Check.due(method + " bears a name of its own", names.contains(method.getName()), false);
            Check.due(method + " takes at most seven parameters", method.getParameterCount() <= 7, true);
        }
        for (Field field : inside.getDeclaredFields()) {
            checkField(field);
        }
    }

    private static void checkText(String text) {
        String code = text.replaceAll("(?s)/\\*.*?\\*/", "").replaceAll("//[^\n]*", "");
        for (String pattern : FORBIDDEN) {
            Check.due("the text has " + pattern,
                java.util.regex.Pattern.compile(pattern).matcher(code).find(), false);
        }
        for (String line : code.split("\n")) {
            if (line.startsWith("import ")) {
                Check.due("an import", line.trim(), "import java.util.NoSuchElementException;");
            }
        }
    }
}
