/** Each bound that the document names for the base, notes and the edition, promises 16 to 23, in a test of its own. */
public final class EditionBoundsTest extends ArchiveTests {
    private static final Refusal BUSY = new Refusal(ArchiveTests::busy);
    private static final Refusal FULL = new Refusal(ArchiveTests::full);
    private static final Refusal STRUCK_OUT = new Refusal(ArchiveTests::struckOut);
    private static final Refusal ALL_STRUCK_OUT = new Refusal(ArchiveTests::allStruckOut);

    public static void main(String[] args) {
        Check.runPromises(EditionBoundsTest.class);
    }

    /** An edition of 33 words: for each column a reading is chosen that is a word. */
    private static WordwardenArchive wideEdition() {
        WordwardenArchive a = wide();
        for (int column = 0; column < 33; column++) {
            a.choose(column, a.reading(column, 0) == 0 ? 1 : 0);
        }
        return a;
    }

    private static WordwardenArchive alike() {
        return make(row(1, 2, 3), row(1, 2, 3));
    }

    static void promise16NoWitnessOutside() {
        BUSY.dueEach("witness", INDEX, outside(0, 2), WordwardenArchive::setBase);
        FULL.dueEach("witness of six", INDEX, outside(0, 5), WordwardenArchive::setBase);
    }

    static void promise16EachWitnessFrom0AtFirst() {
        WordwardenArchive a = make(row(), row(), row(), row(), row(), row());
        Check.due("0 at first", a.setBase(5), 0);
        for (int witness = 0; witness < 6; witness++) {
            Check.due("before", a.setBase(witness), witness == 0 ? 5 : witness - 1);
            Check.due("the same again", a.setBase(witness), witness);
        }
    }

    static void promise16ABaseWithoutWords() {
        WordwardenArchive a = struckOut();
        Check.due("no edition", a.editionLength(), 0);
        Check.due("it differs from all", a.noteSize(1), 1);
        Check.due("the others are read back", textReadBack(a, 1), "1 2");
        a.setBase(1);
        Check.due("an edition", a.editionLength(), 2);
        Check.due("one differs from it", a.noteSize(1), 1);
        Check.dueThrow("nothing is read back", ELEMENT, () -> a.readBack(0, 0));
    }

    static void promise17NoIndexOutside() {
        BUSY.dueEach("two notes", INDEX, outside(0, 1), WordwardenArchive::noteColumn);
        FULL.dueEach("sixteen notes", INDEX, outside(0, 15), WordwardenArchive::noteColumn);
        STRUCK_OUT.dueEach("a note each", INDEX, outside(0, 1), WordwardenArchive::noteColumn);
    }

    static void promise17NoNotes() {
        ALL_STRUCK_OUT.due("no columns", INDEX, a -> a.noteColumn(0));
        new Refusal(EditionBoundsTest::alike).due("no variants", INDEX, a -> a.noteColumn(0));
        new Refusal(() -> make(row(1))).due("one witness", INDEX, a -> a.noteColumn(0));
    }

    static void promise17FirstAndLastNote() {
        Check.due("first of two", busy().noteColumn(0), 0);
        Check.due("last of two", busy().noteColumn(1), 3);
        Check.due("first of 33", wide().noteColumn(0), 0);
        Check.due("last of 33", wide().noteColumn(32), 32);
        Check.dueThrow("no note 33", INDEX, () -> wide().noteColumn(33));
    }

    static void promise18NoIndexOutside() {
        BUSY.dueEach("two notes", INDEX, outside(0, 1), WordwardenArchive::noteSize);
        FULL.dueEach("sixteen notes", INDEX, outside(0, 15), WordwardenArchive::noteSize);
        STRUCK_OUT.dueEach("a note each", INDEX, outside(0, 1), WordwardenArchive::noteSize);
    }

    static void promise18NoNotes() {
        ALL_STRUCK_OUT.due("no columns", INDEX, a -> a.noteSize(0));
        new Refusal(EditionBoundsTest::alike).due("no variants", INDEX, a -> a.noteSize(0));
        new Refusal(() -> make(row(1))).due("one witness", INDEX, a -> a.noteSize(0));
    }

    static void promise18FromOneToFiveWitnesses() {
        for (int same = 1; same < 6; same++) {
            int[][] texts = new int[6][];
            for (int witness = 0; witness < 6; witness++) {
                texts[witness] = row(witness < same ? 1 : 2);
            }
            WordwardenArchive a = make(texts);
            Check.due("the others", a.noteSize(0), 6 - same);
            a.setBase(5);
            Check.due("those from the other side", a.noteSize(0), same);
        }
        Check.due("all apart", make(row(1), row(2), row(3), row(4), row(5), row()).noteSize(0), 5);
    }

    static void promise19NoWitnessOutside() {
        BUSY.dueEach("witness", INDEX, outside(0, 2), (a, witness) -> a.readBack(witness, 0));
        FULL.dueEach("witness of six", INDEX, outside(0, 5), (a, witness) -> a.readBack(witness, 0));
    }

    static void promise19NoIndexOutside() {
        BUSY.dueEach("the base's", ELEMENT, outside(0, 2), (a, index) -> a.readBack(1, index));
        BUSY.dueEach("another one's", ELEMENT, outside(0, 3), (a, index) -> a.readBack(0, index));
        FULL.dueEach("of eight", ELEMENT, outside(0, 7), (a, index) -> a.readBack(4, index));
        FULL.dueEach("of seven", ELEMENT, outside(0, 6), (a, index) -> a.readBack(5, index));
    }

    static void promise19NoIndexInAnEmptyText() {
        STRUCK_OUT.dueEach("all struck out", ELEMENT, row(0, 1, -1), (a, index) -> a.readBack(0, index));
        ALL_STRUCK_OUT.due("no columns", ELEMENT, a -> a.readBack(1, 0));
        new Refusal(() -> make(row())).due("no words", ELEMENT, a -> a.readBack(0, 0));
    }

    static void promise19FirstThrowsFirst() {
        BUSY.due("no witness, no index", INDEX, a -> a.readBack(3, 8));
        BUSY.due("none at all", INDEX, a -> a.readBack(LOW, HIGH));
    }

    static void promise19EachTextFromEachBase() {
        for (int base = 0; base < 6; base++) {
            WordwardenArchive a = full();
            a.setBase(base);
            Check.due("0", textReadBack(a, 0), "1 2 3 4 5 6 7 8");
            Check.due("1", textReadBack(a, 1), "11 12 13 14 15 1 2 3");
            Check.due("2", textReadBack(a, 2), "4 5 6 7 8 21 22 23");
            Check.due("4", textReadBack(a, 4), "1 98 97 96 95 94 93 92");
            Check.due("5", textReadBack(a, 5), "2 1 13 12 11 8 8");
        }
    }

    static void promise19BaseWithoutAWordAheadOfOneThatAllHave() {
        WordwardenArchive a = make(row(1, 2, 3), row(1, 3), row(4, 1, 3));
        for (int base = 0; base < 3; base++) {
            a.setBase(base);
            Check.due("with the word in the midst", textReadBack(a, 0), "1 2 3");
            Check.due("without it", textReadBack(a, 1), "1 3");
            Check.due("with a word ahead", textReadBack(a, 2), "4 1 3");
        }
    }

    static void promise19OneWitnessIsItsOwnBase() {
        Check.due("text", textReadBack(make(row(1, 2, 3, 4, 5, 6, 7, 8)), 0), "1 2 3 4 5 6 7 8");
        Check.due("two alike", textReadBack(alike(), 1), "1 2 3");
    }

    static void promise20NoColumnOutside() {
        BUSY.dueEach("column", INDEX, outside(0, 3), (a, column) -> a.choose(column, 0));
        FULL.dueEach("column of 16", INDEX, outside(0, 15), (a, column) -> a.choose(column, 1));
        ALL_STRUCK_OUT.due("no columns", INDEX, a -> a.choose(0, 0));
    }

    static void promise20NoReadingOutside() {
        BUSY.dueEach("one reading", ELEMENT, outside(0, 0), (a, reading) -> a.choose(1, reading));
        BUSY.dueEach("two readings", ELEMENT, outside(0, 1), (a, reading) -> a.choose(0, reading));
        FULL.dueEach("three readings", ELEMENT, outside(0, 2), (a, reading) -> a.choose(1, reading));
    }

    static void promise20FirstThrowsFirst() {
        BUSY.due("no column, no reading", INDEX, a -> a.choose(4, 9));
        BUSY.due("none at all", INDEX, a -> a.choose(HIGH, LOW));
    }

    static void promise20EachReadingOfSix() {
        WordwardenArchive a = make(row(1), row(2), row(3), row(4), row(5), row());
        int before = 0;
        for (int reading = 5; reading >= 0; reading--) {
            Check.due("before", a.choose(0, reading), before);
            Check.due("a word or none", a.editionLength(), reading == 5 ? 0 : 1);
            before = reading;
        }
        Check.due("the first one again", a.choose(0, 0), 0);
    }

    static void promise20AllForgottenByEachThatChanges() {
        Check.due("setNormal", choicesLeftAfter(a -> a.setNormal(99, 99)), 0);
        Check.due("setBase", choicesLeftAfter(a -> a.setBase(0)), 0);
        Check.due("addWitness", choicesLeftAfter(WordwardenArchive::addWitness), 0);
        Check.due("addWord", choicesLeftAfter(a -> a.addWord(0, 2)), 0);
        Check.due("correct", choicesLeftAfter(a -> a.correct(0, 0, -1)), 0);
        Check.due("use", choicesLeftAfter(a -> a.use(0, false)), 0);
    }

    static void promise20KeptByAllOthers() {
        Check.due("none", choicesLeftAfter(a -> 0), 3);
        Check.due("setLine", choicesLeftAfter(a -> a.setLine(9)), 3);
        Check.due("addLost", choicesLeftAfter(WordwardenArchive::addLost), 3);
        Check.due("setParents", choicesLeftAfter(a -> a.setParents(0, 1, -1)), 3);
        Check.due("a line that is refused", choicesLeftAfter(a -> Check.outcome(() -> a.setLine(0))), 3);
        Check.due("isSound", choicesLeftAfter(WordwardenArchive::isSound), 3);
        Check.due("distance", choicesLeftAfter(a -> a.distance(0, 1)), 3);
        Check.due("readBack", choicesLeftAfter(a -> a.readBack(1, 0)), 3);
    }

    static void promise20KeptByEachThatIsRefused() {
        Check.due("setNormal", choicesLeftAfter(a -> Check.outcome(() -> a.setNormal(0, 1))), 3);
        Check.due("setBase", choicesLeftAfter(a -> Check.outcome(() -> a.setBase(5))), 3);
        Check.due("addWord", choicesLeftAfter(a -> Check.outcome(() -> a.addWord(0, 100))), 3);
        Check.due("addWord to none", choicesLeftAfter(a -> Check.outcome(() -> a.addWord(5, 1))), 3);
        Check.due("correct", choicesLeftAfter(a -> Check.outcome(() -> a.correct(0, 0, 100))), 3);
        Check.due("correct nowhere", choicesLeftAfter(a -> Check.outcome(() -> a.correct(0, 3, 1))), 3);
        Check.due("use", choicesLeftAfter(a -> Check.outcome(() -> a.use(5, true))), 3);
        Check.due("choose", choicesLeftAfter(a -> Check.outcome(() -> a.choose(0, 2))), 3);
    }

    /** Of choices in the first, second and last column, how many stand after the call. */
    private static int choicesLeftAfter(Refusal.Ask ask) {
        WordwardenArchive a = make(row(1, 2, 3), row(4, 5, 6), row(1, 2), row(1, 2, 3), row(1, 2, 3));
        for (int column = 0; column < 3; column++) {
            a.choose(column, 1);
        }
        ask.of(a);
        int left = 0;
        for (int column = 0; column < 3; column++) {
            left += a.choose(column, 0);
        }
        return left;
    }

    static void promise20NothingComesBack() {
        WordwardenArchive a = wideEdition();
        a.use(0, true);
        Check.due("the base's words alone", a.editionLength(), 8);
        Check.due("first column", a.choose(0, 0), 0);
        Check.due("last column", a.choose(32, 0), 0);
        WordwardenArchive b = make(row(1, 2), row(3, 4));
        b.choose(1, 1);
        b.use(0, true);
        b.correct(0, 1, 0);
        b.correct(0, 1, -1);
        Check.due("of a column that was away", b.choose(1, 0), 0);
    }

    static void promise21FromOneToNine() {
        WordwardenArchive a = new WordwardenArchive();
        Check.due("5 at first", a.setLine(1), 5);
        for (int length = 2; length <= 9; length++) {
            Check.due("before " + length, a.setLine(length), length - 1);
        }
        Check.due("the same", a.setLine(9), 9);
        Check.due("9 before", a.setLine(5), 9);
    }

    static void promise21NoLengthOutside() {
        BUSY.dueEach("length", ARGUMENT, outside(1, 9), WordwardenArchive::setLine);
        new Refusal(WordwardenArchive::new).dueEach("length of nothing", ARGUMENT, row(0, 10), WordwardenArchive::setLine);
    }

    static void promise21IsKeptWhenChoicesAreForgotten() {
        WordwardenArchive a = busy();
        a.setNormal(1, 1);
        a.setBase(0);
        a.addWitness();
        a.addWord(3, 1);
        a.correct(3, 0, 0);
        a.use(3, true);
        Check.due("length", a.setLine(1), 2);
    }

    static void promise22FromNoWordOn() {
        Check.due("no witness", new WordwardenArchive().editionLength(), 0);
        Check.due("no words", make(row(), row()).editionLength(), 0);
        Check.due("all struck out", allStruckOut().editionLength(), 0);
        Check.due("a base without words", make(row(), row(1)).editionLength(), 0);
        Check.due("eight words", make(row(1, 2, 3, 4, 5, 6, 7, 8)).editionLength(), 8);
        Check.due("a word in each of 33 columns", wideEdition().editionLength(), 33);
    }

    static void promise22NoneChosenEverywhere() {
        WordwardenArchive a = make(row(1, 2, 3, 4, 5, 6, 7, 8), row());
        for (int column = 0; column < 8; column++) {
            Check.due("so far", a.editionLength(), 8 - column);
            a.choose(column, 1);
        }
        Check.due("no word", a.editionLength(), 0);
        Check.due("no line", lineRow(a), "-1 -1 -1 -1 -1 -1 -1 -1");
        a.choose(7, 0);
        Check.due("one word", a.editionLength(), 1);
        Check.due("the first line", lineRow(a), "-1 -1 -1 -1 -1 -1 -1 0");
    }

    static void promise23NoColumnOutside() {
        BUSY.dueEach("column", INDEX, outside(0, 3), WordwardenArchive::lineOf);
        FULL.dueEach("column of 16", INDEX, outside(0, 15), WordwardenArchive::lineOf);
        ALL_STRUCK_OUT.due("no columns", INDEX, a -> a.lineOf(0));
    }

    static void promise23LinesAreFilledToTheirLength() {
        for (int length = 1; length <= 9; length++) {
            WordwardenArchive a = wideEdition();
            a.setLine(length);
            Check.due("the last one of the first line", a.lineOf(length - 1), 0);
            Check.due("the first one of the second line", a.lineOf(length), 1);
            Check.due("the last one of the second line", a.lineOf(2 * length - 1), 1);
            Check.due("the first one of the third line", a.lineOf(2 * length), 2);
            Check.due("the last one", a.lineOf(32), 32 / length);
        }
    }

    static void promise23FiveAtFirst() {
        WordwardenArchive a = wideEdition();
        Check.due("the fifth word", a.lineOf(4), 0);
        Check.due("the sixth word", a.lineOf(5), 1);
        Check.due("the tenth word", a.lineOf(9), 1);
        Check.due("the eleventh word", a.lineOf(10), 2);
    }

    static void promise23ColumnsWithoutAWordTakeNoRoom() {
        WordwardenArchive a = make(row(1, 2, 3, 4), row());
        a.setLine(1);
        a.choose(0, 1);
        Check.due("the first one is away", lineRow(a), "-1 0 1 2");
        a.choose(2, 1);
        Check.due("another one is away", lineRow(a), "-1 0 -1 1");
        a.choose(0, 0);
        Check.due("the first one is back", lineRow(a), "0 1 -1 2");
    }
}
