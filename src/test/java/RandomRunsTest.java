import java.util.ArrayList;
import java.util.List;
import java.util.Random;

/** Runs of up to 512 calls, drawn by fixed seeds; each answer is that of the reference. */
public final class RandomRunsTest {
    static final int CALLS = 512;
    static final int RUNS = 400;
    private static final int[] STRANGE = {-1, -2, 9, 48, 99, 100, Integer.MIN_VALUE, Integer.MAX_VALUE};

    private final Random random;
    private final WordwardenArchive archive = new WordwardenArchive();
    private final Reference reference = new Reference();
    private final List<String> told = new ArrayList<>();
    private final int words;
    private final boolean isRich;

    private RandomRunsTest(long seed) {
        random = new Random(seed);
        words = 2 + random.nextInt(random.nextBoolean() ? 4 : 30);
        isRich = random.nextBoolean();
    }

    public static void main(String[] args) {
        for (long seed = 1; seed <= RUNS; seed++) {
            new RandomRunsTest(seed).run(seed);
        }
        Check.end("RandomRunsTest");
    }

    private void run(long seed) {
        if (isRich) {
            fill();
        }
        // A step makes one call or two, and no run may have more calls than an object is good for.
        while (told.size() <= CALLS - 2) {
            int kind = random.nextInt(random.nextInt(3) == 0 ? 10 : 33);
            if (!step(kind)) {
                System.out.println("seed " + seed + ": " + told.subList(Math.max(0, told.size() - 60), told.size()));
                return;
            }
        }
    }

    private void fill() {
        for (int witness = 0; witness < 6; witness++) {
            step(1);
        }
        for (int word = 0; word < 40; word++) {
            same("addWord", random.nextInt(6), word());
        }
        for (int lost = 0; lost < 3; lost++) {
            step(7);
        }
        for (int child = 0; child < 12; child++) {
            same("setParents", random.nextInt(9), random.nextInt(9), random.nextInt(9));
        }
    }

    private boolean isOdd() {
        return random.nextInt(25) == 0;
    }

    private int odd() {
        return STRANGE[random.nextInt(STRANGE.length)];
    }

    private int word() {
        return isOdd() ? odd() : 1 + random.nextInt(words);
    }

    private int witness() {
        return isOdd() ? odd() : random.nextInt(isRich ? 6 : 3);
    }

    private int column() {
        return isOdd() ? odd() : random.nextInt(Math.max(1, reference.columns()));
    }

    private int one() {
        int lost = 6 + random.nextInt(3);
        return isOdd() ? odd() : random.nextInt(2) == 0 ? lost : witness();
    }

    private int parent() {
        return random.nextInt(4) == 0 ? -1 : one();
    }

    private int small(int bound) {
        return isOdd() ? odd() : random.nextInt(bound);
    }

    private boolean step(int kind) {
        switch (kind) {
            case 0: return same("setNormal", word(), word());
            case 1: return same("addWitness");
            case 2: case 3: case 4: return same("addWord", witness(), word());
            case 5: return same("correct", witness(), small(6), random.nextInt(3) > 0 ? word() : random.nextInt(2) - 1);
            case 6: return same("use", witness(), random.nextInt(2));
            case 7: return same("addLost");
            case 8: return same("setParents", one(), parent(), random.nextInt(2) == 0 ? -1 : parent());
            case 9: return same("setBase", witness());
            case 10: return same("length", witness());
            case 11: return same("wordAt", witness(), small(9));
            case 12: return same("distance", witness(), witness());
            case 13: return same("columns");
            case 14: return same("at", column(), witness());
            case 15: return same("readings", column());
            case 16: return same("readingOf", column(), witness());
            case 17: return same("reading", column(), small(4));
            case 18: return same("variants");
            case 19: return same("noteColumn", small(10));
            case 20: return same("noteSize", small(10));
            case 21: return same("readBack", witness(), small(9));
            case 22: return same("choose", column(), small(3));
            case 23: return same("setLine", small(11));
            case 24: return same("editionLength");
            case 25: return same("lineOf", column());
            case 26: return same("score", column()) && same("scoreAnew", column());
            case 27: return same("thought", column(), one());
            case 28: return same("isCoherent", column());
            case 29: return same("find", word(), word());
            case 30: return same("total");
            case 31: return same("variantShare") && same("meanDistance");
            default: return same("isSound");
        }
    }

    private boolean same(String name, int... n) {
        String call = name + java.util.Arrays.toString(n);
        String got = Check.outcome(() -> ofArchive(name, n));
        String want = expected(name, n);
        told.add(call + "=" + got);
        Check.due(call, got, want);
        return got.equals(want);
    }

    private String expected(String name, int[] n) {
        try {
            return String.valueOf(ofReference(name, n));
        } catch (RuntimeException thrown) {
            return "throws." + thrown.getClass().getSimpleName();
        }
    }

    private Object ofArchive(String name, int[] n) {
        switch (name) {
            case "setNormal": return archive.setNormal(n[0], n[1]);
            case "addWitness": return archive.addWitness();
            case "addWord": return archive.addWord(n[0], n[1]);
            case "correct": return archive.correct(n[0], n[1], n[2]);
            case "use": return archive.use(n[0], n[1] != 0);
            case "length": return archive.length(n[0]);
            case "wordAt": return archive.wordAt(n[0], n[1]);
            case "distance": return archive.distance(n[0], n[1]);
            case "columns": return archive.columns();
            case "at": return archive.at(n[0], n[1]);
            case "readings": return archive.readings(n[0]);
            case "readingOf": return archive.readingOf(n[0], n[1]);
            case "reading": return archive.reading(n[0], n[1]);
            case "variants": return archive.variants();
            case "setBase": return archive.setBase(n[0]);
            case "noteColumn": return archive.noteColumn(n[0]);
            case "noteSize": return archive.noteSize(n[0]);
            case "readBack": return archive.readBack(n[0], n[1]);
            case "choose": return archive.choose(n[0], n[1]);
            case "setLine": return archive.setLine(n[0]);
            case "editionLength": return archive.editionLength();
            case "lineOf": return archive.lineOf(n[0]);
            case "addLost": return archive.addLost();
            case "setParents": return archive.setParents(n[0], n[1], n[2]);
            case "score": return archive.score(n[0]);
            case "scoreAnew": return archive.scoreAnew(n[0]);
            case "thought": return archive.thought(n[0], n[1]);
            case "isCoherent": return archive.isCoherent(n[0]);
            case "find": return archive.find(n[0], n[1]);
            case "total": return archive.total();
            case "variantShare": return archive.variantShare();
            case "meanDistance": return archive.meanDistance();
            case "isSound": return archive.isSound();
            default: return "no such call";
        }
    }

    private Object ofReference(String name, int[] n) {
        switch (name) {
            case "setNormal": return reference.setNormal(n[0], n[1]);
            case "addWitness": return reference.addWitness();
            case "addWord": return reference.addWord(n[0], n[1]);
            case "correct": return reference.correct(n[0], n[1], n[2]);
            case "use": return reference.use(n[0], n[1] != 0);
            case "length": return reference.length(n[0]);
            case "wordAt": return reference.wordAt(n[0], n[1]);
            case "distance": return reference.distance(n[0], n[1]);
            case "columns": return reference.columns();
            case "at": return reference.at(n[0], n[1]);
            case "readings": return reference.readings(n[0]);
            case "readingOf": return reference.readingOf(n[0], n[1]);
            case "reading": return reference.reading(n[0], n[1]);
            case "variants": return reference.variants();
            case "setBase": return reference.setBase(n[0]);
            case "noteColumn": return reference.noteColumn(n[0]);
            case "noteSize": return reference.noteSize(n[0]);
            case "readBack": return reference.readBack(n[0], n[1]);
            case "choose": return reference.choose(n[0], n[1]);
            case "setLine": return reference.setLine(n[0]);
            case "editionLength": return reference.editionLength();
            case "lineOf": return reference.lineOf(n[0]);
            case "addLost": return reference.addLost();
            case "setParents": return reference.setParents(n[0], n[1], n[2]);
            case "score": return reference.score(n[0]);
            case "scoreAnew": return reference.scoreAnew(n[0]);
            case "thought": return reference.thought(n[0], n[1]);
            case "isCoherent": return reference.isCoherent(n[0]);
            case "find": return reference.find(n[0], n[1]);
            case "total": return reference.total();
            case "variantShare": return reference.variantShare();
            case "meanDistance": return reference.meanDistance();
            case "isSound": return reference.isSound();
            default: return "no such call";
        }
    }
}
