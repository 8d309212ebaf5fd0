import java.io.DataInputStream;
import java.io.IOException;
import java.io.InputStream;
import java.lang.management.ManagementFactory;
import java.lang.reflect.Field;
import java.lang.reflect.Modifier;
import java.nio.charset.StandardCharsets;
import java.nio.file.Files;
import java.nio.file.Path;
import java.util.ArrayList;
import java.util.List;
import java.util.Map;
import java.util.Set;

/** What of LANGUAGE.md the compiled classes can tell, and that calls make no objects but the exceptions they throw. */
public final class RulesTest {
    private static final int LINES_OF_A_METHOD = 60;
    private static final int FIELDS_OF_A_CLASS = 20;
    private static final int ROUNDS = 12;

    /** Rule 4 (and 6): what may be called, by class. */
    private static final Map<String, Set<String>> LIBRARY = Map.of(
        "java/lang/Object", Set.of("<init>"),
        "java/lang/Math", Set.of("min", "max", "abs", "floorDiv", "floorMod"),
        "java/lang/IllegalStateException", Set.of("<init>"),
        "java/lang/IllegalArgumentException", Set.of("<init>"),
        "java/lang/IndexOutOfBoundsException", Set.of("<init>"),
        "java/lang/ArithmeticException", Set.of("<init>"),
        "java/lang/UnsupportedOperationException", Set.of("<init>"),
        "java/util/NoSuchElementException", Set.of("<init>"));

    private static final Set<Class<?>> STATIC_TYPES = Set.of(
        int.class, long.class, boolean.class, char.class, String.class, int[].class, long[].class, char[].class,
        byte[].class);

    public static void main(String[] args) throws IOException {
        List<Class<?>> classes = new ArrayList<>(List.of(WordwardenArchive.class.getDeclaredClasses()));
        classes.add(WordwardenArchive.class);
        for (Class<?> type : classes) {
            checkFields(type);
            checkLibrary(type);
        }
        if (args.length > 0) {
            checkMethodLengths(Files.readAllLines(Path.of(args[0]), StandardCharsets.ISO_8859_1));
        }
        checkRoom();
        Check.end("RulesTest");
    }

    private static void checkFields(Class<?> type) {
        int own = 0;
        for (Field field : type.getDeclaredFields()) {
            if (!Modifier.isStatic(field.getModifiers())) {
                own++;
                continue;
            }
            Check.due(field + " is a constant",
                Modifier.isFinal(field.getModifiers()) && STATIC_TYPES.contains(field.getType()), true);
        }
        Check.due(type + " has few fields", own <= FIELDS_OF_A_CLASS, true);
    }

    private static void checkLibrary(Class<?> type) throws IOException {
        try (InputStream file = type.getResourceAsStream(type.getName() + ".class")) {
            Constants constants = new Constants(new DataInputStream(file));
            Check.due(type + " has no lambda", constants.hasCallSites, false);
            for (int[] method : constants.methods) {
                String owner = constants.nameOfClass(method[0]);
                String name = constants.nameOfMember(method[1]);
                boolean isOwn = owner.equals("WordwardenArchive") || owner.startsWith("WordwardenArchive$");
                Check.due(type + " may call " + owner + "." + name,
                    isOwn || LIBRARY.getOrDefault(owner, Set.of()).contains(name), true);
            }
        }
    }

    /** The pool of constants of a class file, as far as it names methods. */
    private static final class Constants {
        private final String[] texts;
        private final int[][] pairs;
        private final List<int[]> methods = new ArrayList<>();
        private boolean hasCallSites = false;

        Constants(DataInputStream file) throws IOException {
            file.skipNBytes(8);
            int count = file.readUnsignedShort();
            texts = new String[count];
            pairs = new int[count][];
            for (int index = 1; index < count; index++) {
                if (read(file, index)) {
                    index++;
                }
            }
        }

        /** Whether the constant takes two places. */
        private boolean read(DataInputStream file, int index) throws IOException {
            int tag = file.readUnsignedByte();
            switch (tag) {
                case 1 -> texts[index] = file.readUTF();
                case 3, 4 -> file.skipNBytes(4);
                case 5, 6 -> file.skipNBytes(8);
                case 7, 8, 16, 19, 20 -> pairs[index] = new int[] {file.readUnsignedShort(), 0};
                case 9, 12 -> pairs[index] = new int[] {file.readUnsignedShort(), file.readUnsignedShort()};
                case 10, 11 -> methods.add(new int[] {file.readUnsignedShort(), file.readUnsignedShort()});
                case 15 -> {
                    hasCallSites = true;
                    file.skipNBytes(3);
                }
                default -> {
                    hasCallSites = true;
                    file.skipNBytes(4);
                }
            }
            return tag == 5 || tag == 6;
        }

        String nameOfClass(int index) {
            return texts[pairs[index][0]];
        }

        String nameOfMember(int index) {
            return texts[pairs[index][0]];
        }
    }

    private static void checkMethodLengths(List<String> lines) {
        int methods = 0;
        for (int end = 0; end < lines.size(); end++) {
            String line = lines.get(end);
            int indent = line.length() - line.stripLeading().length();
            if (!line.strip().equals("}") || indent != 4 && indent != 8) {
                continue;
            }
            int head = headOf(lines, end, indent);
            if (head >= 0 && lines.get(head).contains("(") && !lines.get(head).matches("\\s*(if|for|while|switch)\\b.*")) {
                methods++;
                Check.due("short: " + lines.get(head).strip(), end - head < LINES_OF_A_METHOD, true);
            }
        }
        Check.due("methods are found", methods > 100, true);
    }

    private static int headOf(List<String> lines, int end, int indent) {
        for (int head = end - 1; head >= 0; head--) {
            String line = lines.get(head);
            if (!line.isBlank() && line.length() - line.stripLeading().length() == indent) {
                return head;
            }
        }
        return -1;
    }

    /** The first rounds let the machine load and link what it needs; the last one is measured. */
    private static void checkRoom() {
        com.sun.management.ThreadMXBean threads =
            (com.sun.management.ThreadMXBean) ManagementFactory.getThreadMXBean();
        long made = 0;
        for (int round = 0; round < 3; round++) {
            WordwardenArchive archive = ArchiveTests.full();
            long before = threads.getCurrentThreadAllocatedBytes();
            askAll(archive);
            made = threads.getCurrentThreadAllocatedBytes() - before;
        }
        Check.due("less than an object each round is made: " + made + " bytes", made < 16 * ROUNDS, true);
    }

    private static void askAll(WordwardenArchive a) {
        for (int round = 0; round < ROUNDS; round++) {
            a.setNormal(99, 1 + round % 2);
            a.correct(3, 7, round);
            a.use(3, round % 2 == 0);
            a.setBase(round % 6);
            a.setLine(1 + round % 9);
            a.setParents(4, 3, round % 2 == 0 ? 6 : -1);
            int column = round % 8;
            a.choose(column, 0);
            a.length(5);
            a.wordAt(0, 0);
            a.distance(0, 1);
            a.columns();
            a.at(column, 0);
            a.readings(column);
            a.readingOf(column, 0);
            a.reading(column, 0);
            a.variants();
            a.noteColumn(0);
            a.noteSize(0);
            a.readBack(0, 0);
            a.editionLength();
            a.lineOf(column);
            a.score(column);
            a.scoreAnew(column);
            a.thought(column, 6);
            a.isCoherent(column);
            a.find(1, 2);
            a.total();
            a.variantShare();
            a.meanDistance();
            a.isSound();
        }
    }
}
