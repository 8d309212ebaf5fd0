/** Each bound that the document names for searches and figures, promises 30 to 34, in a test of its own. */
public final class FigureBoundsTest extends ArchiveTests {
    private static final Refusal NONE = new Refusal(WordwardenArchive::new);
    private static final Refusal BUSY = new Refusal(ArchiveTests::busy);
    private static final Refusal ALL_STRUCK_OUT = new Refusal(ArchiveTests::allStruckOut);

    private static final int[] EIGHT = row(1, 2, 3, 4, 5, 6, 7, 8);
    private static final int[] OTHERS = row(11, 12, 13, 14, 15, 16, 17, 18);

    public static void main(String[] args) {
        Check.runPromises(FigureBoundsTest.class);
    }

    static void promise30WordsFrom1To99() {
        WordwardenArchive a = make(row(1, 99, 1));
        Check.due("the first and the last one", a.find(1, 99), 1);
        Check.due("the last and the first one", a.find(99, 1), 1);
        Check.due("words that are not there", a.find(2, 98), 0);
        Check.due("one that is not there", a.find(99, 98), 0);
    }

    static void promise30NoWordOutside1To99() {
        BUSY.dueEach("first", ARGUMENT, outside(1, 99), (a, first) -> a.find(first, 1));
        BUSY.dueEach("second", ARGUMENT, outside(1, 99), (a, second) -> a.find(1, second));
        BUSY.due("both 0", ARGUMENT, a -> a.find(0, 0));
        BUSY.due("both 100", ARGUMENT, a -> a.find(100, 100));
        NONE.due("without witnesses", ARGUMENT, a -> a.find(0, 1));
        ALL_STRUCK_OUT.due("without columns", ARGUMENT, a -> a.find(1, 100));
    }

    static void promise30NothingToBeFound() {
        Check.due("no witness", new WordwardenArchive().find(1, 2), 0);
        Check.due("no words", make(row(), row()).find(1, 2), 0);
        Check.due("all struck out", allStruckOut().find(1, 2), 0);
        Check.due("one word", make(row(1)).find(1, 1), 0);
        Check.due("a word each of two witnesses", make(row(1), row(9, 9, 2)).find(1, 2), 0);
    }

    static void promise30FromTheFirstColumnToTheLast() {
        Check.due("seven pairs of eight", make(row(5, 5, 5, 5, 5, 5, 5, 5)).find(5, 5), 7);
        WordwardenArchive a = make(EIGHT);
        Check.due("the first pair", a.find(1, 2), 1);
        Check.due("the last pair", a.find(7, 8), 1);
        Check.due("not round the end", a.find(8, 1), 0);
        Check.due("in the last columns of 33", wide().find(20, 20), 1);
        Check.due("in the first columns of 33", wide().find(23, 37), 1);
    }

    static void promise30TheFirstOneStandsAhead() {
        WordwardenArchive a = make(row(1, 2));
        Check.due("in their order", a.find(1, 2), 1);
        Check.due("not the other way round", a.find(2, 1), 0);
        Check.due("not at one column", a.find(1, 1), 0);
    }

    static void promise30NoWordBetween() {
        WordwardenArchive a = make(row(1, 2, 3), row(1, 3));
        Check.due("none of the one that passes by", a.find(1, 3), 1);
        WordwardenArchive b = make(row(1, 2, 3));
        Check.due("a word is between", b.find(1, 3), 0);
        b.correct(0, 1, 0);
        Check.due("its striking out is not used", b.find(1, 3), 0);
        b.use(0, true);
        Check.due("it is struck out", b.find(1, 3), 1);
        b.correct(0, 1, 1);
        Check.due("a word again", b.find(1, 3), 1);
        Check.due("the same twice", b.find(1, 1), 1);
    }

    static void promise30APairOfColumnsCountsOnce() {
        Check.due("of six witnesses", make(EIGHT, EIGHT, EIGHT, EIGHT, EIGHT, EIGHT).find(4, 5), 1);
        WordwardenArchive a = make(row(1, 2, 3, 4), row(3, 4, 1, 2), row(3, 4, 1, 2));
        Check.due("at the first columns and the last ones", a.find(1, 2), 2);
        Check.due("in the midst", a.find(3, 4), 1);
    }

    static void promise30OneColumnInTwoPairs() {
        WordwardenArchive a = make(row(1, 3, 2), row(1, 2), row(1, 2, 3, 2));
        Check.due("second witness", cells(a, 1), "1 0 0 2");
        Check.due("third witness", cells(a, 2), "1 2 3 2");
        Check.due("the first column with the second one and the last one", a.find(1, 2), 2);
        Check.due("the third column with the last one", a.find(3, 2), 1);
    }

    static void promise30NormalFormsAreFound() {
        WordwardenArchive a = make(row(1, 2));
        a.setNormal(1, 99);
        Check.due("the form", a.find(99, 2), 1);
        Check.due("not the word", a.find(1, 2), 0);
        a.setNormal(2, 99);
        Check.due("both of one form", a.find(99, 99), 1);
    }

    static void promise31NothingToSum() {
        Check.due("no witness", new WordwardenArchive().total(), 0L);
        Check.due("no words", make(row(), row()).total(), 0L);
        Check.due("all struck out", allStruckOut().total(), 0L);
        Check.due("no parents", wide().total(), 0L);
    }

    static void promise31SumOfAllColumns() {
        WordwardenArchive a = full();
        long sum = 0;
        for (int column = 0; column < 16; column++) {
            sum += a.score(column);
        }
        Check.due("sixteen columns", a.total(), sum);
        Check.due("they are not all 0", a.total(), 7L);
    }

    static void promise31AllFull() {
        WordwardenArchive a = make(EIGHT, OTHERS, EIGHT, OTHERS, EIGHT, OTHERS);
        for (int child = 1; child < 6; child++) {
            a.setParents(child, child - 1, -1);
        }
        Check.due("five in each of eight columns", a.total(), 40L);
        a.setParents(1, -1, -1);
        Check.due("four in each", a.total(), 32L);
    }

    static void promise32NoColumns() {
        NONE.due("no witness", NUMBER, WordwardenArchive::variantShare);
        ALL_STRUCK_OUT.due("all struck out", NUMBER, WordwardenArchive::variantShare);
        new Refusal(() -> make(row(), row(), row(), row(), row(), row()))
            .due("no words", NUMBER, WordwardenArchive::variantShare);
    }

    static void promise32FromNoneToAll() {
        Check.due("one column", make(row(1)).variantShare(), 0.0f);
        Check.due("all alike", make(EIGHT, EIGHT).variantShare(), 0.0f);
        Check.due("all others", make(EIGHT, OTHERS).variantShare(), 1.0f);
        Check.due("one without a text", struckOut().variantShare(), 1.0f);
        Check.due("one of eight", make(EIGHT, row(1, 2, 3, 4, 5, 6, 7, 9)).variantShare(), 0.125f);
        Check.due("one of seven", make(row(1, 2, 3, 4, 5, 6, 7), row(1, 2, 3, 4, 5, 6)).variantShare(), 1.0f / 7.0f);
        Check.due("six of seven", make(row(1, 2, 3, 4, 5, 6, 7), row(1)).variantShare(), 6.0f / 7.0f);
    }

    static void promise33LessThanTwoWitnesses() {
        NONE.due("none", NUMBER, WordwardenArchive::meanDistance);
        new Refusal(() -> make(row(1))).due("one", NUMBER, WordwardenArchive::meanDistance);
        new Refusal(() -> make(row())).due("one without words", NUMBER, WordwardenArchive::meanDistance);
    }

    static void promise33FromTwoToSixWitnesses() {
        for (int count = 2; count <= 6; count++) {
            int[][] texts = new int[count][0];
            Check.due("none has words", make(texts).meanDistance(), 0.0);
            texts[0] = EIGHT;
            Check.due("one has words", make(texts).meanDistance(), 16.0 * 2 * (count - 1) / (count * (count - 1)));
        }
        Check.due("all struck out", allStruckOut().meanDistance(), 0.0);
        Check.due("one struck out", struckOut().meanDistance(), 4.0);
    }

    static void promise33AllFull() {
        Check.due("alike", make(EIGHT, EIGHT, EIGHT, EIGHT, EIGHT, EIGHT).meanDistance(), 0.0);
        Check.due("two apart", make(EIGHT, OTHERS).meanDistance(), 24.0);
        WordwardenArchive a = make(EIGHT, OTHERS, EIGHT, OTHERS, EIGHT, OTHERS);
        Check.due("three and three", a.meanDistance(), 24.0 * 18 / 30);
        WordwardenArchive b = full();
        long sum = 0;
        for (int pair = 0; pair < 36; pair++) {
            sum += b.distance(pair / 6, pair % 6);
        }
        Check.due("six of all kinds", b.meanDistance(), (double) sum / 30.0);
    }

    static void promise34NothingIsSound() {
        Check.due("no witness", new WordwardenArchive().isSound(), true);
        Check.due("no words", make(row(), row()).isSound(), true);
        Check.due("all struck out", allStruckOut().isSound(), true);
        WordwardenArchive a = new WordwardenArchive();
        a.addLost();
        Check.due("a lost one alone", a.isSound(), true);
    }

    static void promise34FullIsSound() {
        for (int base = 0; base < 6; base++) {
            WordwardenArchive a = full();
            WordwardenArchive b = wide();
            a.setBase(base);
            b.setBase(base);
            Check.due("sixteen columns", a.isSound(), true);
            Check.due("33 columns", b.isSound(), true);
        }
    }

    static void promise34ABaseWithoutATextIsSound() {
        WordwardenArchive a = struckOut();
        Check.due("struck out", a.isSound(), true);
        a.setBase(1);
        Check.due("the other one", a.isSound(), true);
        WordwardenArchive b = make(row(1, 2), row(), row(2, 3));
        b.setBase(1);
        Check.due("in the midst", b.isSound(), true);
    }

    static void promise34HoldsThroughAllCallsOfAnObject() {
        WordwardenArchive a = new WordwardenArchive();
        a.addWitness();
        a.addWord(0, 1);
        for (int call = 3; call <= 511; call++) {
            Check.due("call " + call, a.isSound(), true);
        }
        Check.due("the last one", a.total(), 0L);
    }

    static void promise34HoldsThroughAllChangesOfAnObject() {
        WordwardenArchive a = make(row(1, 2), row(2, 3));
        for (int call = 7; call <= 510; call += 2) {
            int form = call % 4 == 3 ? 2 : 1;
            Check.due("before", a.setNormal(1, form), 3 - form);
            Check.due("columns", a.columns(), form == 2 ? 2 : 3);
        }
        Check.due("the 511th call", a.readBack(1, 1), 3);
        Check.due("the 512th call", a.isSound(), true);
    }

    static void promise34HoldsThroughAllRefusalsOfAnObject() {
        WordwardenArchive a = make(EIGHT);
        for (int call = 10; call <= 511; call++) {
            Check.dueThrow("call " + call, STATE, () -> a.addWord(0, 1));
        }
        Check.due("the 512th call", a.length(0), 8);
    }
}
