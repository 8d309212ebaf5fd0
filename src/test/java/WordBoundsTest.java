/** Each bound that the document names for words and witnesses, promises 1 to 8, in a test of its own. */
public final class WordBoundsTest extends ArchiveTests {
    private static final Refusal NONE = new Refusal(WordwardenArchive::new);
    private static final Refusal BUSY = new Refusal(ArchiveTests::busy);
    private static final Refusal FULL = new Refusal(ArchiveTests::full);
    private static final Refusal STRUCK_OUT = new Refusal(ArchiveTests::struckOut);

    public static void main(String[] args) {
        Check.runPromises(WordBoundsTest.class);
    }

    private static WordwardenArchive emptyWitnesses(int count) {
        return make(new int[count][0]);
    }

    static void promise01NoWitnessIsThere() {
        for (int witness : row(0, 5, 6, -1, LOW, HIGH)) {
            NONE.due("addWord " + witness, INDEX, a -> a.addWord(witness, 1));
            NONE.due("correct " + witness, INDEX, a -> a.correct(witness, 0, 1));
            NONE.due("use " + witness, INDEX, a -> a.use(witness, true));
            NONE.due("length " + witness, INDEX, a -> a.length(witness));
            NONE.due("wordAt " + witness, INDEX, a -> a.wordAt(witness, 0));
            NONE.due("distance " + witness, INDEX, a -> a.distance(witness, witness));
            NONE.due("setBase " + witness, INDEX, a -> a.setBase(witness));
            NONE.due("readBack " + witness, INDEX, a -> a.readBack(witness, 0));
            NONE.due("setParents " + witness, INDEX, a -> a.setParents(witness, -1, -1));
        }
    }

    static void promise01NoColumnIsThere() {
        Check.due("columns", new WordwardenArchive().columns(), 0);
        for (int column : row(0, 1, -1, LOW, HIGH)) {
            NONE.due("at " + column, INDEX, a -> a.at(column, 0));
            NONE.due("readings " + column, INDEX, a -> a.readings(column));
            NONE.due("readingOf " + column, INDEX, a -> a.readingOf(column, 0));
            NONE.due("reading " + column, INDEX, a -> a.reading(column, 0));
            NONE.due("choose " + column, INDEX, a -> a.choose(column, 0));
            NONE.due("lineOf " + column, INDEX, a -> a.lineOf(column));
            NONE.due("score " + column, INDEX, a -> a.score(column));
            NONE.due("scoreAnew " + column, INDEX, a -> a.scoreAnew(column));
            NONE.due("thought " + column, INDEX, a -> a.thought(column, 6));
            NONE.due("isCoherent " + column, INDEX, a -> a.isCoherent(column));
        }
    }

    static void promise01NoNoteIsThere() {
        for (int index : row(0, 1, -1, LOW, HIGH)) {
            NONE.due("noteColumn " + index, INDEX, a -> a.noteColumn(index));
            NONE.due("noteSize " + index, INDEX, a -> a.noteSize(index));
        }
    }

    static void promise01NoLostOneIsThere() {
        for (int lost : row(6, 7, 8, 9)) {
            NONE.due("child " + lost, INDEX, a -> a.setParents(lost, -1, -1));
        }
        WordwardenArchive a = make(row(1));
        Check.dueThrow("parent", INDEX, () -> a.setParents(0, 6, -1));
        Check.dueThrow("thought", INDEX, () -> a.thought(0, 6));
    }

    static void promise01FiguresOfNothing() {
        WordwardenArchive a = new WordwardenArchive();
        Check.due("variants", a.variants(), 0);
        Check.due("editionLength", a.editionLength(), 0);
        Check.due("find", a.find(1, 1), 0);
        Check.due("total", a.total(), 0L);
        Check.due("isSound", a.isSound(), true);
        NONE.due("variantShare", NUMBER, WordwardenArchive::variantShare);
        NONE.due("meanDistance", NUMBER, WordwardenArchive::meanDistance);
    }

    static void promise01ObjectsAreApart() {
        WordwardenArchive first = full();
        WordwardenArchive second = new WordwardenArchive();
        Check.due("witness", second.addWitness(), 0);
        Check.due("lost one", second.addLost(), 6);
        Check.due("word", second.addWord(0, 99), 1);
        Check.due("normal form", second.reading(0, 0), 99);
        Check.due("line", second.setLine(5), 5);
        Check.due("parents", second.setParents(0, -1, -1), 0);
        Check.due("base", second.setBase(0), 0);
        Check.due("the first one stays", first.columns(), 16);
    }

    static void promise02EachWordIsItsOwnNormalFormAtFirst() {
        WordwardenArchive a = new WordwardenArchive();
        for (int word = 1; word <= 99; word++) {
            Check.due("word " + word, a.setNormal(word, word), word);
        }
    }

    static void promise02WordsFrom1To99CanBeSet() {
        WordwardenArchive a = new WordwardenArchive();
        for (int word = 1; word <= 99; word++) {
            Check.due("word " + word, a.setNormal(word, 100 - word), word);
        }
        for (int word = 1; word <= 99; word++) {
            Check.due("word " + word + " before", a.setNormal(word, 1), 100 - word);
        }
    }

    static void promise02NoWordOutside1To99() {
        BUSY.dueEach("word", ARGUMENT, outside(1, 99), (a, word) -> a.setNormal(word, 1));
    }

    static void promise02NoNormalFormOutside1To99() {
        BUSY.dueEach("normal", ARGUMENT, outside(1, 99), (a, normal) -> a.setNormal(1, normal));
        BUSY.due("both 0", ARGUMENT, a -> a.setNormal(0, 0));
        BUSY.due("both 100", ARGUMENT, a -> a.setNormal(100, 100));
        BUSY.due("both -1", ARGUMENT, a -> a.setNormal(-1, -1));
    }

    static void promise02NoWordsNeedBeThere() {
        WordwardenArchive a = new WordwardenArchive();
        a.setNormal(7, 8);
        a.addWitness();
        a.addWord(0, 7);
        Check.due("set ahead of the word", a.reading(0, 0), 8);
    }

    static void promise02NormalFormsAreNotFollowedOn() {
        WordwardenArchive a = make(row(1), row(2));
        a.setNormal(1, 2);
        Check.due("the form is another word", a.distance(0, 1), 1);
        a.setNormal(2, 1);
        Check.due("each the other one's", a.distance(0, 1), 3);
        Check.due("first reading", a.reading(0, 0), 2);
        Check.due("second reading", a.reading(0, 1), 1);
    }

    static void promise03SixWitnessesFrom0On() {
        WordwardenArchive a = new WordwardenArchive();
        for (int witness = 0; witness < 6; witness++) {
            int next = witness;
            Check.dueThrow("not there yet " + next, INDEX, () -> a.length(next));
            Check.due("number", a.addWitness(), next);
            Check.due("without words", a.length(next), 0);
            Check.due("as it was written", a.use(next, false), false);
        }
    }

    static void promise03NoSeventhWitness() {
        FULL.due("six full ones", STATE, WordwardenArchive::addWitness);
        new Refusal(() -> emptyWitnesses(6)).due("six empty ones", STATE, WordwardenArchive::addWitness);
        WordwardenArchive a = emptyWitnesses(6);
        for (int time = 0; time < 3; time++) {
            Check.dueThrow("again", STATE, a::addWitness);
        }
        Check.dueThrow("no witness 6", INDEX, () -> a.length(6));
        Check.due("a lost one still has the number 6", a.addLost(), 6);
    }

    static void promise03LostOnesTakeNoNumber() {
        WordwardenArchive a = new WordwardenArchive();
        for (int lost = 0; lost < 3; lost++) {
            a.addLost();
        }
        for (int witness = 0; witness < 6; witness++) {
            Check.due("number", a.addWitness(), witness);
        }
        Check.dueThrow("six", STATE, a::addWitness);
    }

    static void promise04EightWordsFromPlace0On() {
        WordwardenArchive a = make(row());
        for (int count = 1; count <= 8; count++) {
            Check.due("count", a.addWord(0, 10 * count), count);
            Check.due("place", a.wordAt(0, count - 1), 10 * count);
            Check.due("no correction yet", a.correct(0, count - 1, -1), -1);
        }
        Check.due("all", text(a, 0), "10 20 30 40 50 60 70 80");
    }

    static void promise04NoNinthWord() {
        for (int witness = 0; witness < 6; witness++) {
            int one = witness;
            FULL.due("witness " + one, STATE, a -> a.addWord(one, 1));
        }
        WordwardenArchive a = make(row(1, 1, 1, 1, 1, 1, 1, 1), row());
        Check.dueThrow("ninth", STATE, () -> a.addWord(0, 1));
        Check.due("another witness has room", a.addWord(1, 1), 1);
    }

    static void promise04StruckOutWordsAreCounted() {
        WordwardenArchive a = make(row(1, 2, 3, 4, 5, 6, 7));
        for (int place = 0; place < 7; place++) {
            a.correct(0, place, 0);
        }
        a.use(0, true);
        Check.due("the eighth", a.addWord(0, 9), 8);
        a.correct(0, 7, 0);
        Check.due("no text", a.length(0), 0);
        Check.dueThrow("the ninth", STATE, () -> a.addWord(0, 9));
        Check.due("still no text", a.length(0), 0);
    }

    static void promise04FirstAndLastWord() {
        WordwardenArchive a = make(row());
        Check.due("1", a.addWord(0, 1), 1);
        Check.due("99", a.addWord(0, 99), 2);
        Check.due("text", text(a, 0), "1 99");
    }

    static void promise04NoWordOutside1To99() {
        BUSY.dueEach("word", ARGUMENT, outside(1, 99), (a, word) -> a.addWord(0, word));
        STRUCK_OUT.due("word 0", ARGUMENT, a -> a.addWord(0, 0));
    }

    static void promise04NoWitnessOutside() {
        BUSY.dueEach("witness", INDEX, outside(0, 2), (a, witness) -> a.addWord(witness, 1));
        FULL.dueEach("witness of six", INDEX, outside(0, 5), (a, witness) -> a.addWord(witness, 1));
    }

    static void promise04FirstThrowsFirst() {
        BUSY.due("no witness, no word", INDEX, a -> a.addWord(3, 0));
        BUSY.due("no witness, no word, far", INDEX, a -> a.addWord(LOW, HIGH));
        FULL.due("no witness, no word, others full", INDEX, a -> a.addWord(6, 100));
        FULL.due("no word, full", ARGUMENT, a -> a.addWord(0, 100));
        FULL.due("no word 0, full", ARGUMENT, a -> a.addWord(5, 0));
    }

    static void promise05PlacesFrom0ToTheLastWord() {
        WordwardenArchive a = make(row(1, 2, 3, 4, 5, 6, 7, 8));
        Check.due("first", a.correct(0, 0, 91), -1);
        Check.due("last", a.correct(0, 7, 98), -1);
        a.use(0, true);
        Check.due("both", text(a, 0), "91 2 3 4 5 6 7 98");
    }

    static void promise05NoPlaceOutside() {
        BUSY.dueEach("place", INDEX, outside(0, 2), (a, place) -> a.correct(1, place, 1));
        FULL.dueEach("place of eight", INDEX, outside(0, 7), (a, place) -> a.correct(5, place, 1));
        new Refusal(() -> make(row(), row(1))).due("no words", INDEX, a -> a.correct(0, 0, 1));
        BUSY.due("place of a longer witness", INDEX, a -> a.correct(1, 3, 0));
    }

    static void promise05NoWitnessOutside() {
        BUSY.dueEach("witness", INDEX, outside(0, 2), (a, witness) -> a.correct(witness, 0, 1));
        FULL.dueEach("witness of six", INDEX, outside(0, 5), (a, witness) -> a.correct(witness, 0, -1));
    }

    static void promise05PlacesOfStruckOutWordsStay() {
        WordwardenArchive a = struckOut();
        Check.due("no text", a.length(0), 0);
        Check.due("last place", a.correct(0, 1, 5), 0);
        Check.due("its word", text(a, 0), "5");
        Check.due("first place", a.correct(0, 0, -1), 0);
        Check.due("as it was written", text(a, 0), "1 5");
        STRUCK_OUT.due("no third place", INDEX, b -> b.correct(0, 2, 5));
    }

    static void promise05CorrectionsFromMinus1To99() {
        WordwardenArchive a = make(row(50));
        a.use(0, true);
        Check.due("none at first", a.correct(0, 0, 99), -1);
        Check.due("99", text(a, 0), "99");
        Check.due("99 before", a.correct(0, 0, 1), 99);
        Check.due("1", text(a, 0), "1");
        Check.due("1 before", a.correct(0, 0, 0), 1);
        Check.due("struck out", text(a, 0), "");
        Check.due("0 before", a.correct(0, 0, -1), 0);
        Check.due("as it was written", text(a, 0), "50");
        Check.due("none before", a.correct(0, 0, 50), -1);
        Check.due("the same word", text(a, 0), "50");
        Check.due("the same word before", a.correct(0, 0, 50), 50);
    }

    static void promise05NoCorrectionOutside() {
        BUSY.dueEach("word", ARGUMENT, outside(-1, 99), (a, word) -> a.correct(0, 0, word));
        STRUCK_OUT.due("one that is struck out", ARGUMENT, a -> a.correct(0, 0, 100));
    }

    static void promise05FirstThrowsFirst() {
        BUSY.due("no witness, no word", INDEX, a -> a.correct(3, 0, 100));
        BUSY.due("no place, no word", INDEX, a -> a.correct(0, 4, -2));
        BUSY.due("none at all", INDEX, a -> a.correct(LOW, HIGH, LOW));
    }

    static void promise05EachWordHasItsOwnCorrection() {
        WordwardenArchive a = make(row(1, 2), row(1, 2));
        a.correct(0, 0, 7);
        Check.due("another place", a.correct(0, 1, -1), -1);
        Check.due("another witness", a.correct(1, 0, -1), -1);
        Check.due("its own", a.correct(0, 0, -1), 7);
    }

    static void promise06AtFirstAsItWasWritten() {
        WordwardenArchive a = emptyWitnesses(6);
        for (int witness = 0; witness < 6; witness++) {
            Check.due("at first", a.use(witness, true), false);
        }
        for (int witness = 0; witness < 6; witness++) {
            Check.due("corrected", a.use(witness, true), true);
            Check.due("corrected still", a.use(witness, false), true);
            Check.due("as written", a.use(witness, false), false);
        }
    }

    static void promise06NoWitnessOutside() {
        BUSY.dueEach("corrected", INDEX, outside(0, 2), (a, witness) -> a.use(witness, true));
        BUSY.dueEach("as written", INDEX, outside(0, 2), (a, witness) -> a.use(witness, false));
        FULL.dueEach("of six", INDEX, outside(0, 5), (a, witness) -> a.use(witness, false));
    }

    static void promise06WithoutCorrectionsTheTextStays() {
        WordwardenArchive a = make(row(1, 2, 3));
        a.use(0, true);
        Check.due("text", text(a, 0), "1 2 3");
        Check.due("a word is added behind", a.addWord(0, 4), 4);
        Check.due("longer text", text(a, 0), "1 2 3 4");
    }

    static void promise06AllStruckOutAndBack() {
        WordwardenArchive a = struckOut();
        Check.due("none", text(a, 0), "");
        Check.due("was corrected", a.use(0, false), true);
        Check.due("all", text(a, 0), "1 2");
        Check.due("no variants", a.variants(), 0);
        a.use(0, true);
        Check.due("none again", text(a, 0), "");
    }

    static void promise07LengthsFrom0To8() {
        WordwardenArchive a = make(row());
        for (int count = 0; count < 8; count++) {
            Check.due("length", a.length(0), count);
            a.addWord(0, 1);
        }
        Check.due("eight", a.length(0), 8);
        a.use(0, true);
        for (int place = 7; place >= 0; place--) {
            a.correct(0, place, 0);
            Check.due("struck out from " + place, a.length(0), place);
        }
    }

    static void promise07NoWitnessOutside() {
        BUSY.dueEach("witness", INDEX, outside(0, 2), WordwardenArchive::length);
        FULL.dueEach("witness of six", INDEX, outside(0, 5), WordwardenArchive::length);
    }

    static void promise08IndicesFrom0ToTheLastOne() {
        WordwardenArchive a = full();
        Check.due("first", a.wordAt(4, 0), 99);
        Check.due("last", a.wordAt(4, 7), 92);
        Check.due("last of a shorter text", a.wordAt(5, 6), 8);
        FULL.due("behind it", ELEMENT, b -> b.wordAt(5, 7));
    }

    static void promise08NoIndexOutside() {
        BUSY.dueEach("index", ELEMENT, outside(0, 2), (a, index) -> a.wordAt(1, index));
        FULL.dueEach("index of eight", ELEMENT, outside(0, 7), (a, index) -> a.wordAt(0, index));
    }

    static void promise08NoIndexInAnEmptyText() {
        STRUCK_OUT.dueEach("all struck out", ELEMENT, row(0, 1, -1), (a, index) -> a.wordAt(0, index));
        new Refusal(() -> emptyWitnesses(1)).due("no words", ELEMENT, a -> a.wordAt(0, 0));
    }

    static void promise08NoWitnessOutside() {
        BUSY.dueEach("witness", INDEX, outside(0, 2), (a, witness) -> a.wordAt(witness, 0));
        FULL.dueEach("witness of six", INDEX, outside(0, 5), (a, witness) -> a.wordAt(witness, 0));
    }

    static void promise08FirstThrowsFirst() {
        BUSY.due("no witness, no index", INDEX, a -> a.wordAt(3, 8));
        BUSY.due("none at all", INDEX, a -> a.wordAt(LOW, HIGH));
    }

    static void promise08WordsAreNotNormalForms() {
        WordwardenArchive a = make(row(1, 99));
        a.setNormal(1, 99);
        a.setNormal(99, 1);
        Check.due("words", text(a, 0), "1 99");
    }
}
