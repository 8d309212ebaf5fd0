import java.util.NoSuchElementException;

/** What tests begin with: archives of a told kind, numbers out of bounds, and rows of answers as texts. */
abstract class ArchiveTests {
    static final Class<IndexOutOfBoundsException> INDEX = IndexOutOfBoundsException.class;
    static final Class<IllegalArgumentException> ARGUMENT = IllegalArgumentException.class;
    static final Class<IllegalStateException> STATE = IllegalStateException.class;
    static final Class<NoSuchElementException> ELEMENT = NoSuchElementException.class;
    static final Class<ArithmeticException> NUMBER = ArithmeticException.class;
    static final Class<UnsupportedOperationException> RING = UnsupportedOperationException.class;

    static final int LOW = Integer.MIN_VALUE;
    static final int HIGH = Integer.MAX_VALUE;

    /** Far outside of all bounds, but near 0 once 6 is taken from them, they are cut short or are multiplied. */
    private static final int[] FAR = {
        LOW, LOW + 1, LOW + 5, LOW + 6, -65536, -256, -100, -2, 256, 65536, 477218589, 1 << 29, 715827883, 1 << 30,
        HIGH - 1, HIGH,
    };

    static int[] row(int... numbers) {
        return numbers;
    }

    /** The numbers just outside of the bounds, and those far outside. */
    static int[] outside(int first, int last) {
        int[] numbers = new int[FAR.length + 2];
        numbers[0] = first - 1;
        numbers[1] = last + 1;
        System.arraycopy(FAR, 0, numbers, 2, FAR.length);
        return numbers;
    }

    static WordwardenArchive make(int[]... texts) {
        WordwardenArchive a = new WordwardenArchive();
        for (int[] text : texts) {
            int witness = a.addWitness();
            for (int word : text) {
                a.addWord(witness, word);
            }
        }
        return a;
    }

    /** Three witnesses of all kinds and two lost ones, with a choice, a base and lines that are not those at first. */
    static WordwardenArchive busy() {
        WordwardenArchive a = make(row(1, 2, 3, 4), row(1, 5, 3), row(6, 2, 3, 7, 4));
        a.setNormal(5, 2);
        a.correct(0, 1, 0);
        a.correct(2, 0, 8);
        a.correct(2, 3, 0);
        a.use(2, true);
        a.addLost();
        a.addLost();
        a.setParents(1, 0, -1);
        a.setParents(2, 6, 1);
        a.setParents(0, 7, -1);
        a.setParents(6, 7, -1);
        a.setBase(1);
        a.setLine(2);
        a.choose(0, 1);
        a.choose(3, 0);
        return a;
    }

    /** Six witnesses with eight words each, in more columns than a text has words, and three lost ones. */
    static WordwardenArchive full() {
        WordwardenArchive a = make(
            row(1, 2, 3, 4, 5, 6, 7, 8), row(11, 12, 13, 14, 15, 1, 2, 3), row(4, 5, 6, 7, 8, 21, 22, 23),
            row(1, 2, 3, 4, 5, 6, 7, 8), row(99, 98, 97, 96, 95, 94, 93, 92), row(3, 2, 1, 13, 12, 11, 8, 8));
        a.setNormal(99, 1);
        a.correct(3, 7, 99);
        a.correct(5, 0, 0);
        a.use(5, true);
        for (int lost = 0; lost < 3; lost++) {
            a.addLost();
        }
        a.setParents(0, 6, 7);
        a.setParents(1, 7, 8);
        a.setParents(2, 8, -1);
        a.setParents(3, 0, -1);
        a.setParents(4, 3, 6);
        a.setParents(6, 8, -1);
        a.setBase(5);
        a.setLine(9);
        a.choose(1, 0);
        return a;
    }

    /** 33 columns: the words of the witnesses are seldom beside one another. */
    static WordwardenArchive wide() {
        return make(
            row(32, 16, 18, 9, 4, 12, 5, 10), row(51, 26, 12, 32, 13, 6, 16, 42), row(1, 31, 35, 41, 11, 51, 32, 44),
            row(23, 37, 29, 8, 55, 1, 35), row(13, 5, 10, 27, 53, 38, 34, 40), row(38, 40, 54, 57, 28, 20, 20));
    }

    /** A witness with words that are all struck out, and one that has the same words still. */
    static WordwardenArchive struckOut() {
        WordwardenArchive a = make(row(1, 2), row(1, 2));
        a.correct(0, 0, 0);
        a.correct(0, 1, 0);
        a.use(0, true);
        return a;
    }

    /** All witnesses have words, and none has a text. */
    static WordwardenArchive allStruckOut() {
        WordwardenArchive a = struckOut();
        a.correct(1, 0, 0);
        a.correct(1, 1, 0);
        a.use(1, true);
        return a;
    }

    static String text(WordwardenArchive a, int witness) {
        StringBuilder text = new StringBuilder();
        for (int index = 0; index < a.length(witness); index++) {
            text.append(a.wordAt(witness, index)).append(' ');
        }
        return text.toString().trim();
    }

    static String textReadBack(WordwardenArchive a, int witness) {
        StringBuilder text = new StringBuilder();
        for (int index = 0; index < a.length(witness); index++) {
            text.append(a.readBack(witness, index)).append(' ');
        }
        return text.toString().trim();
    }

    /** The words of a witness in all columns, from the first one on. */
    static String cells(WordwardenArchive a, int witness) {
        StringBuilder text = new StringBuilder();
        for (int column = 0; column < a.columns(); column++) {
            text.append(a.at(column, witness)).append(' ');
        }
        return text.toString().trim();
    }

    static String lineRow(WordwardenArchive a) {
        StringBuilder text = new StringBuilder();
        for (int column = 0; column < a.columns(); column++) {
            text.append(a.lineOf(column)).append(' ');
        }
        return text.toString().trim();
    }

    static String thoughts(WordwardenArchive a, int column, int losts) {
        StringBuilder text = new StringBuilder();
        for (int lost = 6; lost < 6 + losts; lost++) {
            text.append(a.thought(column, lost)).append(' ');
        }
        return text.toString().trim();
    }
}
