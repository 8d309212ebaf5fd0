/** Each bound that the document names for columns and readings, promises 9 to 15, in a test of its own. */
public final class CollationBoundsTest extends ArchiveTests {
    private static final Refusal BUSY = new Refusal(ArchiveTests::busy);
    private static final Refusal FULL = new Refusal(ArchiveTests::full);
    private static final Refusal STRUCK_OUT = new Refusal(ArchiveTests::struckOut);
    private static final Refusal ALL_STRUCK_OUT = new Refusal(ArchiveTests::allStruckOut);

    private static final int[] EIGHT = row(1, 2, 3, 4, 5, 6, 7, 8);

    public static void main(String[] args) {
        Check.runPromises(CollationBoundsTest.class);
    }

    /** A text of eight words that has none in common with those from other starts. */
    private static int[] eightFrom(int start) {
        int[] words = new int[8];
        for (int place = 0; place < 8; place++) {
            words[place] = start + place;
        }
        return words;
    }

    private static WordwardenArchive sixApart() {
        return make(eightFrom(1), eightFrom(9), eightFrom(17), eightFrom(25), eightFrom(33), eightFrom(41));
    }

    private static WordwardenArchive sixAlike() {
        return make(EIGHT, EIGHT, EIGHT, EIGHT, EIGHT, EIGHT);
    }

    static void promise09NoWitnessOutside() {
        BUSY.dueEach("first", INDEX, outside(0, 2), (a, first) -> a.distance(first, 0));
        BUSY.dueEach("second", INDEX, outside(0, 2), (a, second) -> a.distance(2, second));
        BUSY.dueEach("both", INDEX, outside(0, 2), (a, both) -> a.distance(both, both));
        FULL.dueEach("first of six", INDEX, outside(0, 5), (a, first) -> a.distance(first, 5));
        FULL.dueEach("second of six", INDEX, outside(0, 5), (a, second) -> a.distance(0, second));
    }

    static void promise09ToItselfIs0() {
        WordwardenArchive a = full();
        for (int witness = 0; witness < 6; witness++) {
            Check.due("witness " + witness, a.distance(witness, witness), 0);
        }
        Check.due("without a text", struckOut().distance(0, 0), 0);
    }

    static void promise09OfTextsWithoutWords() {
        WordwardenArchive a = make(row(), EIGHT, row());
        Check.due("none to none", a.distance(0, 2), 0);
        Check.due("eight new ones", a.distance(0, 1), 16);
        Check.due("eight passed by", a.distance(1, 0), 16);
        WordwardenArchive b = struckOut();
        Check.due("two new ones", b.distance(0, 1), 4);
        Check.due("two passed by", b.distance(1, 0), 4);
        Check.due("all struck out", allStruckOut().distance(0, 1), 0);
    }

    static void promise09OfFullTexts() {
        WordwardenArchive a = make(EIGHT, eightFrom(11), EIGHT, row(2, 3, 4, 5, 6, 7, 8, 1));
        Check.due("eight others", a.distance(0, 1), 24);
        Check.due("the same eight", a.distance(0, 2), 0);
        Check.due("one passed by, one new", a.distance(0, 3), 4);
        for (int word = 1; word <= 8; word++) {
            a.setNormal(10 + word, word);
        }
        Check.due("eight of the same form", a.distance(0, 1), 8);
    }

    static void promise09AnotherWordCosts3AheadOf4() {
        WordwardenArchive a = make(row(1), row(2));
        Check.due("put for 3", a.distance(0, 1), 3);
        a.setNormal(2, 1);
        Check.due("put for 1", a.distance(0, 1), 1);
        a.correct(1, 0, 1);
        a.use(1, true);
        Check.due("put for 0", a.distance(0, 1), 0);
    }

    static void promise09TakesWhatCostsLeast() {
        int[] first = row(1, 2, 3, 14, 15, 16, 17, 18);
        WordwardenArchive a = make(first, row(21, 22, 23, 24, 25, 26, 1, 2), row(21, 22, 23, 24, 25, 1, 2, 3));
        Check.due("two the same: as dear as eight others", a.distance(0, 1), 24);
        Check.due("three the same: ten gaps", a.distance(0, 2), 20);
        Check.due("other way round", a.distance(2, 0), 20);
    }

    static void promise09OtherWitnessesDoNotMatter() {
        WordwardenArchive a = make(row(1), row(2), row(2));
        Check.due("the column has a 2 in it, the first one alone has not", a.distance(0, 2), 3);
    }

    static void promise10NoColumns() {
        Check.due("no witness", new WordwardenArchive().columns(), 0);
        Check.due("no words", make(row(), row(), row(), row(), row(), row()).columns(), 0);
        Check.due("all struck out", allStruckOut().columns(), 0);
    }

    static void promise10FirstTextWithoutWords() {
        Check.due("of the second one", make(row(), row(1, 2)).columns(), 2);
        Check.due("of the last one", make(row(), row(), row(), row(), row(), EIGHT).columns(), 8);
        WordwardenArchive a = struckOut();
        Check.due("struck out", a.columns(), 2);
        Check.due("the first one has none there", cells(a, 0), "0 0");
        Check.due("the second one has", cells(a, 1), "1 2");
    }

    static void promise10LastTextWithoutWords() {
        WordwardenArchive a = make(EIGHT, row());
        Check.due("columns", a.columns(), 8);
        Check.due("none there", cells(a, 1), "0 0 0 0 0 0 0 0");
    }

    static void promise10AllFull() {
        Check.due("the same words", sixAlike().columns(), 8);
        Check.due("48 different words", sixApart().columns(), 8);
        Check.due("some of the same", full().columns(), 16);
        Check.due("seldom beside one another", wide().columns(), 33);
    }

    static void promise10EachWordOfAllStandsOnce() {
        WordwardenArchive a = wide();
        int words = 0;
        int told = 0;
        for (int witness = 0; witness < 6; witness++) {
            told += a.length(witness);
            String stands = cells(a, witness).replaceAll("\\b0 ?", "").trim();
            Check.due("in their order", stands, text(a, witness));
            words += stands.split(" ").length;
        }
        Check.due("all of them", words, told);
    }

    static void promise10OfEqualCostsPutsFirst() {
        WordwardenArchive a = make(row(1, 2), row(3));
        Check.due("ahead of passing by", cells(a, 1), "3 0");
        WordwardenArchive b = make(row(1), row(2, 3));
        Check.due("ahead of a new one", cells(b, 1), "2 3");
        Check.due("the new one is behind", cells(b, 0), "1 0");
        WordwardenArchive c = make(row(5, 5, 5), row(5));
        Check.due("the first of the same", cells(c, 1), "5 0 0");
        WordwardenArchive d = make(row(5), row(5, 5, 5));
        Check.due("the first word", cells(d, 0), "5 0 0");
    }

    static void promise10OfEqualCostsPutsEightOthers() {
        int[] first = row(1, 2, 3, 14, 15, 16, 17, 18);
        WordwardenArchive a = make(first, row(21, 22, 23, 24, 25, 26, 1, 2));
        Check.due("as dear as twelve gaps", a.columns(), 8);
        WordwardenArchive b = make(first, row(21, 22, 23, 24, 25, 1, 2, 3));
        Check.due("dearer than ten gaps", b.columns(), 13);
        Check.due("new ones, then the same", cells(b, 1), "21 22 23 24 25 1 2 3 0 0 0 0 0");
    }

    static void promise10OfEqualCostsPassesByAheadOfNew() {
        WordwardenArchive a = make(row(1, 2), row(2, 1));
        Check.due("the first word is passed by", cells(a, 0), "1 2 0");
        Check.due("the last one is new", cells(a, 1), "0 2 1");
        WordwardenArchive b = make(row(1, 2, 3, 4), row(3, 4, 1, 2));
        Check.due("two are passed by", cells(b, 1), "0 0 3 4 1 2");
        Check.due("two new ones behind", cells(b, 0), "1 2 3 4 0 0");
    }

    static void promise10CostComesAheadOfTheOrder() {
        Check.due("passing by is cheaper", cells(make(row(1, 2), row(2)), 1), "0 2");
        Check.due("two are passed by", cells(make(row(1, 2, 3), row(3)), 1), "0 0 3");
        WordwardenArchive a = make(row(1), row(2, 1));
        Check.due("a new one is cheaper", cells(a, 0), "0 1");
        WordwardenArchive b = make(row(1), row(2, 3, 1));
        Check.due("two new ones are cheaper", cells(b, 0), "0 0 1");
    }

    static void promise10SameWordAheadOfSameForm() {
        WordwardenArchive a = make(row(1, 2), row(2));
        a.setNormal(1, 2);
        Check.due("0 and 2 are less than 1 and 2", cells(a, 1), "0 2");
        WordwardenArchive b = make(row(1, 2), row(3));
        b.setNormal(3, 2);
        Check.due("2 and 1 are less than 3 and 2", cells(b, 1), "0 3");
        b.setNormal(1, 2);
        Check.due("both of the same form", cells(b, 1), "3 0");
    }

    static void promise10TheLeastCostBesideAWordThere() {
        WordwardenArchive a = make(row(9, 1), row(9, 3), row(1), row(3), row(4));
        Check.due("beside the first witness", cells(a, 2), "0 1");
        Check.due("beside the second witness", cells(a, 3), "0 3");
        Check.due("beside none", cells(a, 4), "4 0");
        a.setNormal(4, 3);
        Check.due("of the same form as one of them", cells(a, 4), "0 4");
    }

    static void promise10FollowsEachChange() {
        WordwardenArchive a = new WordwardenArchive();
        a.addWitness();
        Check.due("no word", a.columns(), 0);
        a.addWord(0, 1);
        Check.due("addWord", a.columns(), 1);
        a.use(0, true);
        a.correct(0, 0, 0);
        Check.due("correct", a.columns(), 0);
        a.use(0, false);
        Check.due("use", a.columns(), 1);
        a.addWitness();
        a.addWord(1, 2);
        a.addWord(1, 3);
        Check.due("behind another word", cells(a, 0), "1 0");
        a.setNormal(3, 1);
        Check.due("setNormal", cells(a, 0), "0 1");
    }

    static void promise11NoColumnOutside() {
        BUSY.dueEach("column", INDEX, outside(0, 3), (a, column) -> a.at(column, 0));
        FULL.dueEach("column of 16", INDEX, outside(0, 15), (a, column) -> a.at(column, 5));
        ALL_STRUCK_OUT.due("no columns", INDEX, a -> a.at(0, 0));
    }

    static void promise11NoWitnessOutside() {
        BUSY.dueEach("witness", INDEX, outside(0, 2), (a, witness) -> a.at(0, witness));
        FULL.dueEach("witness of six", INDEX, outside(0, 5), (a, witness) -> a.at(15, witness));
        BUSY.due("neither", INDEX, a -> a.at(4, 3));
    }

    static void promise11FirstAndLastCells() {
        WordwardenArchive a = full();
        Check.due("first column, first witness", a.at(0, 0), 0);
        Check.due("first column, last witness", a.at(0, 5), 2);
        Check.due("last column, first witness", a.at(15, 0), 0);
        Check.due("last column, third witness", a.at(15, 2), 23);
        Check.due("a word, not its form", a.at(5, 4), 99);
    }

    static void promise12NoColumnOutside() {
        BUSY.dueEach("column", INDEX, outside(0, 3), WordwardenArchive::readings);
        FULL.dueEach("column of 16", INDEX, outside(0, 15), WordwardenArchive::readings);
        ALL_STRUCK_OUT.due("no columns", INDEX, a -> a.readings(0));
    }

    static void promise12From1To6Readings() {
        int[][] texts = new int[6][1];
        for (int witness = 0; witness < 6; witness++) {
            texts[witness][0] = 11 + witness;
            int[][] some = java.util.Arrays.copyOf(texts, witness + 1);
            Check.due("readings", make(some).readings(0), witness + 1);
        }
        Check.due("all the same", sixAlike().readings(7), 1);
        Check.due("five and none", make(row(1), row(2), row(3), row(4), row(5), row()).readings(0), 6);
        Check.due("one and none", struckOut().readings(0), 2);
    }

    static void promise13NoColumnOutside() {
        BUSY.dueEach("column", INDEX, outside(0, 3), (a, column) -> a.readingOf(column, 0));
        FULL.dueEach("column of 16", INDEX, outside(0, 15), (a, column) -> a.readingOf(column, 5));
        ALL_STRUCK_OUT.due("no columns", INDEX, a -> a.readingOf(0, 1));
    }

    static void promise13NoWitnessOutside() {
        BUSY.dueEach("witness", INDEX, outside(0, 2), (a, witness) -> a.readingOf(0, witness));
        FULL.dueEach("witness of six", INDEX, outside(0, 5), (a, witness) -> a.readingOf(0, witness));
        BUSY.due("neither", INDEX, a -> a.readingOf(-1, -1));
    }

    static void promise13NumbersFrom0To5() {
        WordwardenArchive a = sixApart();
        for (int witness = 0; witness < 6; witness++) {
            Check.due("all different", a.readingOf(7, witness), witness);
            Check.due("all the same", sixAlike().readingOf(7, witness), 0);
        }
    }

    static void promise13ByTheFirstWitnessThatHasThem() {
        WordwardenArchive a = make(row(), row(9), row(), row(3), row(9), row(3));
        StringBuilder numbers = new StringBuilder();
        for (int witness = 0; witness < 6; witness++) {
            numbers.append(a.readingOf(0, witness));
        }
        Check.due("numbers", numbers.toString(), "010212");
        Check.due("struck out is 0 too", struckOut().readingOf(0, 0), 0);
        Check.due("the next one is 1", struckOut().readingOf(0, 1), 1);
    }

    static void promise14NoColumnOutside() {
        BUSY.dueEach("column", INDEX, outside(0, 3), (a, column) -> a.reading(column, 0));
        FULL.dueEach("column of 16", INDEX, outside(0, 15), (a, column) -> a.reading(column, 1));
        ALL_STRUCK_OUT.due("no columns", INDEX, a -> a.reading(0, 0));
    }

    static void promise14NoReadingOutside() {
        BUSY.dueEach("one reading", ELEMENT, outside(0, 0), (a, reading) -> a.reading(1, reading));
        BUSY.dueEach("two readings", ELEMENT, outside(0, 1), (a, reading) -> a.reading(0, reading));
        new Refusal(CollationBoundsTest::sixApart)
            .dueEach("six readings", ELEMENT, outside(0, 5), (a, reading) -> a.reading(7, reading));
        STRUCK_OUT.dueEach("one word and none", ELEMENT, outside(0, 1), (a, reading) -> a.reading(1, reading));
    }

    static void promise14FirstThrowsFirst() {
        BUSY.due("no column, no reading", INDEX, a -> a.reading(4, 9));
        BUSY.due("none at all", INDEX, a -> a.reading(HIGH, LOW));
    }

    static void promise14NormalFormsAnd0() {
        WordwardenArchive a = struckOut();
        Check.due("none is the first one", a.reading(0, 0), 0);
        Check.due("a word is the second one", a.reading(0, 1), 1);
        a.setNormal(1, 99);
        Check.due("its form", a.reading(0, 1), 99);
        WordwardenArchive b = make(row(1), row(2), row(3), row(4), row(5), row());
        Check.due("none is the last one", b.reading(0, 5), 0);
        Check.due("the last word", sixApart().reading(7, 5), 48);
    }

    static void promise15FromNoneToAll() {
        Check.due("no witness", new WordwardenArchive().variants(), 0);
        Check.due("no words", make(row(), row()).variants(), 0);
        Check.due("all struck out", allStruckOut().variants(), 0);
        Check.due("one witness", make(EIGHT).variants(), 0);
        Check.due("six that are alike", sixAlike().variants(), 0);
        Check.due("six that are apart", sixApart().variants(), 8);
        Check.due("one without a text", struckOut().variants(), 2);
        Check.due("33 columns", wide().variants(), 33);
    }

    static void promise15OneOtherReadingIsEnough() {
        WordwardenArchive a = sixAlike();
        a.correct(5, 7, 99);
        a.use(5, true);
        Check.due("in the last column", a.variants(), 1);
        a.setNormal(99, 8);
        Check.due("another word of the same form", a.variants(), 0);
    }
}
