/** Each promise by itself: ordinary inputs, the edges that the document names, and wrong inputs. */
public final class PromiseTest extends ArchiveTests {
    public static void main(String[] args) {
        newObject();
        setNormal();
        addWitness();
        addWord();
        correct();
        use();
        textOfWitness();
        distance();
        columns();
        wayTaken();
        at();
        readings();
        variants();
        setBase();
        notes();
        readBack();
        choose();
        lines();
        addLost();
        setParents();
        rings();
        score();
        thought();
        isCoherent();
        find();
        total();
        variantShare();
        meanDistance();
        isSound();
        firstQuestions();
        Check.end("PromiseTest");
    }

    // Promise 1
    private static void newObject() {
        WordwardenArchive a = new WordwardenArchive();
        Check.due("1 columns", a.columns(), 0);
        Check.due("1 variants", a.variants(), 0);
        Check.due("1 editionLength", a.editionLength(), 0);
        Check.due("1 total", a.total(), 0L);
        Check.due("1 isSound", a.isSound(), true);
        Check.due("1 find", a.find(1, 2), 0);
        Check.dueThrow("1 no witness", INDEX, () -> a.length(0));
        Check.dueThrow("1 no base to set", INDEX, () -> a.setBase(0));
        Check.dueThrow("1 no lost one", INDEX, () -> a.setParents(6, -1, -1));
        Check.due("1 first witness", a.addWitness(), 0);
        Check.due("1 first lost one", a.addLost(), 6);
        Check.due("1 objects are apart", new WordwardenArchive().addWitness(), 0);
    }

    // Promise 2
    private static void setNormal() {
        WordwardenArchive a = make(row(1, 2), row(1, 3));
        Check.due("2 itself at first", a.setNormal(1, 1), 1);
        Check.due("2 the last word", a.setNormal(99, 1), 99);
        Check.due("2 before", a.setNormal(99, 99), 1);
        Check.due("2 not yet", a.variants(), 1);
        Check.due("2 set", a.setNormal(3, 2), 3);
        Check.due("2 columns follow", a.variants(), 0);
        Check.due("2 distance follows", a.distance(0, 1), 1);
        Check.due("2 set again", a.setNormal(2, 7), 2);
        Check.due("2 forms are not followed on", a.distance(0, 1), 3);
        Check.due("2 its reading", a.reading(1, 0), 7);
        Check.due("2 the other one's", a.reading(1, 1), 2);
        for (int wrong : row(0, -1, 100, LOW, HIGH)) {
            Check.dueThrow("2 word " + wrong, ARGUMENT, () -> a.setNormal(wrong, 1));
            Check.dueThrow("2 normal " + wrong, ARGUMENT, () -> a.setNormal(1, wrong));
        }
        Check.due("2 unchanged", a.setNormal(1, 1), 1);
    }

    // Promise 3
    private static void addWitness() {
        WordwardenArchive a = new WordwardenArchive();
        for (int witness = 0; witness < 6; witness++) {
            Check.due("3 number", a.addWitness(), witness);
            Check.due("3 without words", a.length(witness), 0);
        }
        Check.dueThrow("3 six", STATE, a::addWitness);
        Check.dueThrow("3 no seventh", INDEX, () -> a.length(6));
        WordwardenArchive b = make(row(4));
        Check.due("3 one reading", b.readings(0), 1);
        b.addWitness();
        Check.due("3 the new one reads nothing", b.readings(0), 2);
    }

    // Promise 4
    private static void addWord() {
        WordwardenArchive a = make(row());
        for (int word = 1; word <= 8; word++) {
            Check.due("4 count", a.addWord(0, 100 - word), word);
        }
        Check.due("4 order", text(a, 0), "99 98 97 96 95 94 93 92");
        Check.dueThrow("4 eight", STATE, () -> a.addWord(0, 1));
        Check.dueThrow("4 no word ahead of eight", ARGUMENT, () -> a.addWord(0, 0));
        Check.dueThrow("4 no word", ARGUMENT, () -> a.addWord(0, 100));
        Check.dueThrow("4 no word below", ARGUMENT, () -> a.addWord(0, -1));
        Check.dueThrow("4 no witness ahead of all", INDEX, () -> a.addWord(1, 0));
        Check.dueThrow("4 witness below", INDEX, () -> a.addWord(-1, 1));
        Check.due("4 unchanged", a.length(0), 8);
        a.correct(0, 0, 0);
        a.use(0, true);
        Check.dueThrow("4 struck out words count", STATE, () -> a.addWord(0, 1));
        WordwardenArchive b = make(row(5, 6));
        b.correct(0, 1, 0);
        b.use(0, true);
        Check.due("4 number of words, not of the text", b.addWord(0, 7), 3);
        Check.due("4 behind", text(b, 0), "5 7");
    }

    // Promise 5
    private static void correct() {
        WordwardenArchive a = make(row(1, 2, 3), row(1));
        Check.due("5 none before", a.correct(0, 1, 9), -1);
        Check.due("5 not used yet", text(a, 0), "1 2 3");
        a.use(0, true);
        Check.due("5 used", text(a, 0), "1 9 3");
        Check.due("5 in place of another", a.correct(0, 1, 0), 9);
        Check.due("5 struck out", text(a, 0), "1 3");
        Check.due("5 back to none", a.correct(0, 1, -1), 0);
        Check.due("5 as written", text(a, 0), "1 2 3");
        Check.due("5 the place is that of what is written", a.correct(0, 0, 0), -1);
        Check.due("5 last place", a.correct(0, 2, 99), -1);
        Check.due("5 both", text(a, 0), "2 99");
        Check.due("5 of its own", a.correct(1, 0, 1), -1);
        Check.due("5 the same word", a.correct(1, 0, -1), 1);
        for (int wrong : row(-2, 100, LOW, HIGH)) {
            Check.dueThrow("5 word " + wrong, ARGUMENT, () -> a.correct(0, 0, wrong));
        }
        Check.dueThrow("5 place", INDEX, () -> a.correct(0, 3, 1));
        Check.dueThrow("5 place ahead of the word", INDEX, () -> a.correct(0, 3, 100));
        Check.dueThrow("5 place below", INDEX, () -> a.correct(0, -1, 1));
        Check.dueThrow("5 place of another witness", INDEX, () -> a.correct(1, 1, 1));
        Check.dueThrow("5 witness", INDEX, () -> a.correct(2, 0, 1));
        Check.dueThrow("5 witness below", INDEX, () -> a.correct(-1, 0, 1));
        Check.due("5 unchanged", text(a, 0), "2 99");
    }

    // Promise 6
    private static void use() {
        WordwardenArchive a = make(row(1, 2), row(1, 2));
        a.correct(0, 0, 5);
        Check.due("6 as written at first", a.use(0, false), false);
        Check.due("6 still", a.use(0, true), false);
        Check.due("6 corrected", text(a, 0), "5 2");
        Check.due("6 the other one is not", a.use(1, false), false);
        Check.due("6 was", a.use(0, true), true);
        a.correct(0, 1, 6);
        Check.due("6 a later correction is used too", text(a, 0), "5 6");
        Check.due("6 was still", a.use(0, false), true);
        Check.due("6 as written again", text(a, 0), "1 2");
        Check.due("6 columns follow", a.variants(), 0);
        Check.dueThrow("6 witness", INDEX, () -> a.use(2, true));
        Check.dueThrow("6 witness below", INDEX, () -> a.use(-1, true));
    }

    // Promises 7 and 8
    private static void textOfWitness() {
        WordwardenArchive a = make(row(1, 2, 3), row());
        Check.due("7 length", a.length(0), 3);
        Check.due("7 empty", a.length(1), 0);
        a.correct(0, 0, 0);
        Check.due("7 as written", a.length(0), 3);
        a.use(0, true);
        Check.due("7 without those struck out", a.length(0), 2);
        Check.due("8 first", a.wordAt(0, 0), 2);
        Check.due("8 last", a.wordAt(0, 1), 3);
        a.setNormal(2, 50);
        Check.due("8 the word, not its form", a.wordAt(0, 0), 2);
        for (int wrong : row(2, -1, LOW, HIGH)) {
            Check.dueThrow("7 witness " + wrong, INDEX, () -> a.length(wrong));
            Check.dueThrow("8 witness " + wrong, INDEX, () -> a.wordAt(wrong, 0));
            Check.dueThrow("8 index " + wrong, ELEMENT, () -> a.wordAt(0, wrong));
        }
        Check.dueThrow("8 witness ahead of index", INDEX, () -> a.wordAt(2, 9));
        Check.dueThrow("8 empty", ELEMENT, () -> a.wordAt(1, 0));
        a.correct(0, 1, 0);
        a.correct(0, 2, 0);
        Check.due("7 all struck out", a.length(0), 0);
        Check.dueThrow("8 all struck out", ELEMENT, () -> a.wordAt(0, 0));
    }

    // Promise 9
    private static void distance() {
        WordwardenArchive a = make(row(1, 2, 3), row(1, 3), row(4, 2, 3), row(), row(3, 1, 2), row(1, 5, 3));
        Check.due("9 the same", a.distance(0, 0), 0);
        Check.due("9 one passed by", a.distance(0, 1), 2);
        Check.due("9 one new", a.distance(1, 0), 2);
        Check.due("9 another word", a.distance(0, 2), 3);
        Check.due("9 none", a.distance(0, 3), 6);
        Check.due("9 to none", a.distance(3, 0), 6);
        Check.due("9 none to none", a.distance(3, 3), 0);
        Check.due("9 one moved", a.distance(0, 4), 4);
        Check.due("9 one in the midst", a.distance(0, 5), 3);
        a.setNormal(5, 8);
        a.setNormal(2, 8);
        Check.due("9 same form", a.distance(0, 5), 1);
        a.correct(0, 1, 5);
        a.use(0, true);
        Check.due("9 as used", a.distance(0, 5), 0);
        Check.due("9 columns of the first one alone", a.distance(2, 1), 5);
        for (int wrong : row(6, -1, LOW, HIGH)) {
            Check.dueThrow("9 first " + wrong, INDEX, () -> a.distance(wrong, 0));
            Check.dueThrow("9 second " + wrong, INDEX, () -> a.distance(0, wrong));
        }
        Check.due("9 leaves the columns", a.columns(), 4);
    }

    // Promise 10
    private static void columns() {
        Check.due("10 of one", make(row(7, 7)).columns(), 2);
        Check.due("10 of empty ones", make(row(), row()).columns(), 0);
        Check.due("10 behind an empty one", make(row(), row(1, 2)).columns(), 2);
        WordwardenArchive a = make(row(1, 2, 3, 4), row(1, 3, 5, 4), row(1, 2, 5, 4, 6));
        Check.due("10 of three", a.columns(), 6);
        a.setNormal(5, 3);
        Check.due("10 after setNormal", a.columns(), 5);
        a.correct(2, 4, 0);
        Check.due("10 not used", a.columns(), 5);
        a.use(2, true);
        Check.due("10 after use", a.columns(), 4);
        a.addWord(0, 9);
        Check.due("10 after addWord", a.columns(), 5);
    }

    /** Which of the cheapest ways is taken, and what a word costs in a column. */
    private static void wayTaken() {
        WordwardenArchive a = make(row(1, 1), row(1));
        Check.due("10 puts sooner", cells(a, 1), "1 0");
        WordwardenArchive b = make(row(1, 1, 2, 2), row(2, 1, 2, 1));
        Check.due("10 puts, others behind", cells(b, 1), "2 1 2 1");
        WordwardenArchive c = make(row(1, 2), row(2, 1));
        Check.due("10 passes by ahead of a new one", cells(c, 0), "1 2 0");
        Check.due("10 and a new one at the end", cells(c, 1), "0 2 1");
        WordwardenArchive d = make(row(1, 9), row(2), row(2, 1));
        Check.due("10 another word there costs 3", cells(d, 1), "2 0");
        Check.due("10 the least one beside a word there", cells(d, 2), "2 1");
        WordwardenArchive e = make(row(1), row(9, 1, 9));
        Check.due("10 new ones ahead and behind", cells(e, 0), "0 1 0");
        WordwardenArchive f = make(row(1, 2, 3), row(3), row(4, 3));
        Check.due("10 passes two by", cells(f, 1), "0 0 3");
        Check.due("10 puts another word into the first column that it can", cells(f, 2), "4 0 3");
        WordwardenArchive g = make(row(1), row(2), row(3));
        g.setNormal(3, 2);
        Check.due("10 one column", g.columns(), 1);
        WordwardenArchive h = make(row(1, 2), row(3));
        h.setNormal(3, 2);
        Check.due("10 same form is nearer", cells(h, 1), "0 3");
    }

    // Promise 11
    private static void at() {
        WordwardenArchive a = make(row(1, 2), row(2, 3));
        a.setNormal(3, 30);
        Check.due("11 first witness", cells(a, 0), "1 2 0");
        Check.due("11 second witness", cells(a, 1), "0 2 3");
        for (int wrong : row(3, -1, LOW, HIGH)) {
            Check.dueThrow("11 column " + wrong, INDEX, () -> a.at(wrong, 0));
            Check.dueThrow("11 witness " + wrong, INDEX, () -> a.at(0, wrong));
        }
        Check.dueThrow("11 a witness that is none", INDEX, () -> a.at(0, 2));
    }

    // Promises 12 to 14
    private static void readings() {
        WordwardenArchive a = make(row(1, 2), row(1), row(1, 3), row(1, 4), row(1, 2), row(5, 3));
        Check.due("12 of the first column", a.readings(0), 2);
        Check.due("12 of the second one", a.readings(1), 4);
        StringBuilder numbers = new StringBuilder();
        for (int witness = 0; witness < 6; witness++) {
            numbers.append(a.readingOf(1, witness));
        }
        Check.due("13 by the first witness that has them", numbers.toString(), "012302");
        Check.due("14 first", a.reading(1, 0), 2);
        Check.due("14 none", a.reading(1, 1), 0);
        Check.due("14 third", a.reading(1, 2), 3);
        Check.due("14 fourth", a.reading(1, 3), 4);
        a.setNormal(4, 3);
        Check.due("12 by forms", a.readings(1), 3);
        Check.due("13 by forms", a.readingOf(1, 3), 2);
        a.setNormal(2, 60);
        Check.due("14 a form", a.reading(1, 0), 60);
        a.setNormal(2, 3);
        Check.due("12 fewer", a.readings(1), 2);
        Check.dueThrow("14 no longer", ELEMENT, () -> a.reading(1, 2));
        for (int wrong : row(2, -1, LOW, HIGH)) {
            Check.dueThrow("12 column " + wrong, INDEX, () -> a.readings(wrong));
            Check.dueThrow("13 column " + wrong, INDEX, () -> a.readingOf(wrong, 0));
            Check.dueThrow("14 column " + wrong, INDEX, () -> a.reading(wrong, 9));
            Check.dueThrow("14 reading " + wrong, ELEMENT, () -> a.reading(1, wrong));
        }
        Check.dueThrow("13 witness", INDEX, () -> a.readingOf(0, 6));
        Check.dueThrow("13 witness below", INDEX, () -> a.readingOf(0, -1));
    }

    // Promise 15
    private static void variants() {
        Check.due("15 of one witness", make(row(1, 2)).variants(), 0);
        WordwardenArchive a = make(row(1, 2, 3), row(1, 4, 3), row(1, 2));
        Check.due("15 of three", a.variants(), 2);
        a.setNormal(4, 2);
        Check.due("15 words of one form are one reading", a.variants(), 1);
        a.addWord(2, 3);
        Check.due("15 none", a.variants(), 0);
        a.addWitness();
        Check.due("15 one without words", a.variants(), 3);
    }

    // Promise 16
    private static void setBase() {
        WordwardenArchive a = make(row(1, 2, 3), row(1, 2), row(1, 2));
        Check.due("16 0 at first", a.setBase(1), 0);
        Check.due("16 before", a.setBase(2), 1);
        Check.due("16 the edition follows", a.editionLength(), 2);
        Check.due("16 the notes follow", a.noteSize(0), 1);
        for (int wrong : row(3, -1, LOW, HIGH)) {
            Check.dueThrow("16 witness " + wrong, INDEX, () -> a.setBase(wrong));
        }
        Check.due("16 unchanged", a.setBase(0), 2);
        Check.due("16 the notes follow again", a.noteSize(0), 2);
        Check.due("16 the readings stay", a.readingOf(2, 0), 0);
    }

    // Promises 17 and 18
    private static void notes() {
        WordwardenArchive a = make(row(1, 2, 3, 4), row(1, 5, 3, 6), row(1, 5, 3, 4), row(1, 2, 3, 7));
        Check.due("17 first", a.noteColumn(0), 1);
        Check.due("17 second", a.noteColumn(1), 3);
        Check.due("18 first", a.noteSize(0), 2);
        Check.due("18 second", a.noteSize(1), 2);
        a.setBase(1);
        Check.due("18 by another base", a.noteSize(1), 3);
        a.addWitness();
        Check.due("17 all columns", a.noteColumn(3), 3);
        Check.due("18 one that reads nothing", a.noteSize(0), 1);
        a.setBase(4);
        Check.due("18 a base that reads nothing", a.noteSize(0), 4);
        for (int wrong : row(4, -1, LOW, HIGH)) {
            Check.dueThrow("17 index " + wrong, INDEX, () -> a.noteColumn(wrong));
            Check.dueThrow("18 index " + wrong, INDEX, () -> a.noteSize(wrong));
        }
        WordwardenArchive b = make(row(1), row(1));
        Check.dueThrow("17 no note", INDEX, () -> b.noteColumn(0));
        Check.dueThrow("18 no note", INDEX, () -> b.noteSize(0));
    }

    // Promise 19
    private static void readBack() {
        WordwardenArchive a = make(row(1, 2, 3), row(4, 1, 3, 5), row(), row(2, 6));
        a.setNormal(3, 30);
        a.setNormal(6, 2);
        for (int base = 0; base < 4; base++) {
            a.setBase(base);
            Check.due("19 first of 0", a.readBack(0, 0), 1);
            Check.due("19 last of 0", a.readBack(0, 2), 30);
            Check.due("19 first of 1", a.readBack(1, 0), 4);
            Check.due("19 second of 1", a.readBack(1, 1), 1);
            Check.due("19 last of 1", a.readBack(1, 3), 5);
            Check.due("19 forms", a.readBack(3, 1), 2);
            Check.dueThrow("19 behind 0", ELEMENT, () -> a.readBack(0, 3));
            Check.dueThrow("19 of an empty one", ELEMENT, () -> a.readBack(2, 0));
            for (int wrong : row(4, -1, LOW, HIGH)) {
                Check.dueThrow("19 witness " + wrong, INDEX, () -> a.readBack(wrong, 99));
                Check.dueThrow("19 index " + wrong, ELEMENT, () -> a.readBack(1, wrong));
            }
        }
        a.correct(1, 0, 0);
        a.use(1, true);
        Check.due("19 as used", a.readBack(1, 0), 1);
        a.choose(0, 1);
        Check.due("19 not as chosen", a.readBack(0, 0), 1);
        WordwardenArchive b = make(row(1, 2, 3), row(1, 2, 3, 4), row(1, 5, 3));
        b.setNormal(1, 10);
        for (int base = 0; base < 3; base++) {
            b.setBase(base);
            Check.due("19 from the base alone", b.readBack(1, 0), 10);
            Check.due("19 from the base behind a note", b.readBack(2, 2), 3);
            Check.due("19 another one's", b.readBack(2, 1), 5);
            Check.due("19 one that the base has or not", b.readBack(1, 3), 4);
            Check.dueThrow("19 behind all", ELEMENT, () -> b.readBack(2, 3));
        }
    }

    // Promise 20
    private static void choose() {
        WordwardenArchive a = make(row(1, 2), row(1, 3), row(1));
        Check.due("20 the base's", a.choose(1, 1), 0);
        Check.due("20 the chosen one", a.choose(1, 2), 1);
        Check.due("20 the word is gone", a.editionLength(), 1);
        Check.due("20 none has no line", a.lineOf(1), -1);
        Check.due("20 the same again", a.choose(1, 2), 2);
        Check.due("20 another column", a.choose(0, 0), 0);
        Check.due("20 back", a.choose(1, 0), 2);
        Check.due("20 the word is there", a.editionLength(), 2);
        a.setBase(1);
        Check.due("20 another base's", a.choose(1, 0), 1);
        Check.due("20 the readings stay", a.readingOf(1, 1), 1);
        Check.dueThrow("20 column", INDEX, () -> a.choose(2, 9));
        Check.dueThrow("20 column below", INDEX, () -> a.choose(-1, 0));
        Check.dueThrow("20 reading", ELEMENT, () -> a.choose(1, 3));
        Check.dueThrow("20 reading of another column", ELEMENT, () -> a.choose(0, 1));
        Check.dueThrow("20 reading below", ELEMENT, () -> a.choose(1, -1));
        Check.due("20 unchanged", a.choose(1, 0), 0);
    }

    // Promises 21 to 23
    private static void lines() {
        WordwardenArchive a = make(row(1, 2, 3, 4, 5, 6), row(1, 2, 3, 4, 5, 6, 7, 8));
        Check.due("22 words of the base", a.editionLength(), 6);
        Check.due("23 lines of five", lineRow(a), "0 0 0 0 0 1 -1 -1");
        Check.due("21 5 at first", a.setLine(1), 5);
        Check.due("23 lines of one", lineRow(a), "0 1 2 3 4 5 -1 -1");
        Check.due("21 before", a.setLine(9), 1);
        Check.due("23 lines of nine", lineRow(a), "0 0 0 0 0 0 -1 -1");
        a.setLine(2);
        a.choose(6, 1);
        Check.due("22 one chosen", a.editionLength(), 7);
        Check.due("23 one chosen", lineRow(a), "0 0 1 1 2 2 3 -1");
        a.correct(1, 0, 0);
        a.use(1, true);
        a.choose(0, 1);
        Check.due("22 one without a word", a.editionLength(), 5);
        Check.due("23 those behind move up", lineRow(a), "-1 0 0 1 1 2 -1 -1");
        a.setBase(1);
        Check.due("22 of another base", a.editionLength(), 7);
        Check.due("23 of another base", lineRow(a), "-1 0 0 1 1 2 2 3");
        for (int wrong : row(0, -1, 10, LOW, HIGH)) {
            Check.dueThrow("21 length " + wrong, ARGUMENT, () -> a.setLine(wrong));
        }
        for (int wrong : row(8, -1, LOW, HIGH)) {
            Check.dueThrow("23 column " + wrong, INDEX, () -> a.lineOf(wrong));
        }
        Check.due("21 unchanged", a.setLine(3), 2);
        Check.due("22 of no text", make(row(), row(1)).editionLength(), 0);
    }

    // Promise 24
    private static void addLost() {
        WordwardenArchive a = new WordwardenArchive();
        Check.due("24 first", a.addLost(), 6);
        Check.due("24 second", a.addLost(), 7);
        Check.due("24 third", a.addLost(), 8);
        Check.dueThrow("24 three", STATE, a::addLost);
        Check.dueThrow("24 no fourth", INDEX, () -> a.setParents(9, -1, -1));
        Check.due("24 without parents", a.setParents(8, -1, -1), 0);
    }

    // Promise 25
    private static void setParents() {
        WordwardenArchive a = make(row(1), row(1), row(1));
        a.addLost();
        a.addLost();
        Check.due("25 none before", a.setParents(0, 6, -1), 0);
        Check.due("25 one before", a.setParents(0, 6, 7), 1);
        Check.due("25 two before", a.setParents(0, -1, -1), 2);
        Check.due("25 none again", a.setParents(0, 1, 2), 0);
        Check.due("25 of a lost one", a.setParents(7, 6, 0), 0);
        for (int wrong : row(3, 5, 8, 9, -2, LOW, HIGH)) {
            Check.dueThrow("25 child " + wrong, INDEX, () -> a.setParents(wrong, 0, -1));
            Check.dueThrow("25 first " + wrong, INDEX, () -> a.setParents(0, wrong, -1));
            Check.dueThrow("25 second " + wrong, INDEX, () -> a.setParents(0, 6, wrong));
        }
        Check.dueThrow("25 child -1", INDEX, () -> a.setParents(-1, 0, 1));
        Check.dueThrow("25 a second one alone", ARGUMENT, () -> a.setParents(0, -1, 6));
        Check.dueThrow("25 both the same", ARGUMENT, () -> a.setParents(0, 6, 6));
        Check.dueThrow("25 none is ahead of the same", INDEX, () -> a.setParents(0, 9, 9));
        Check.dueThrow("25 none is ahead of alone", INDEX, () -> a.setParents(0, -1, 9));
        Check.dueThrow("25 the same is ahead of a ring", ARGUMENT, () -> a.setParents(0, 0, 0));
        Check.dueThrow("25 alone is ahead of a ring", ARGUMENT, () -> a.setParents(0, -1, 0));
        Check.due("25 unchanged", a.setParents(0, 6, -1), 2);
    }

    private static void rings() {
        WordwardenArchive a = make(row(1), row(1), row(1), row(1), row(1), row(1));
        a.addLost();
        a.addLost();
        a.addLost();
        Check.dueThrow("25 its own parent", RING, () -> a.setParents(0, 0, -1));
        Check.dueThrow("25 its own second parent", RING, () -> a.setParents(0, 1, 0));
        for (int one = 0; one < 8; one++) {
            Check.due("25 a long line", a.setParents(one, one + 1, -1), 0);
        }
        Check.dueThrow("25 a ring of nine", RING, () -> a.setParents(8, 0, -1));
        Check.dueThrow("25 a ring of two", RING, () -> a.setParents(8, 7, -1));
        Check.due("25 a second way is no ring", a.setParents(0, 1, 8), 1);
        Check.dueThrow("25 a ring by the second parent", RING, () -> a.setParents(8, 0, -1));
        a.setParents(4, -1, -1);
        Check.dueThrow("25 the second parent still makes one", RING, () -> a.setParents(8, 0, -1));
        a.setParents(0, 1, -1);
        Check.due("25 no ring once the line is cut", a.setParents(8, 0, -1), 0);
        Check.due("25 other parents can take the place of its own", a.setParents(8, 1, -1), 1);
    }

    // Promises 26 and 27
    private static void score() {
        WordwardenArchive a = make(row(1, 2, 3), row(1, 4, 3), row(1, 4, 6), row(1, 2, 6));
        Check.due("26 without parents", a.score(1), 0);
        a.setParents(1, 0, -1);
        Check.due("26 not its parent's", a.score(1), 1);
        Check.due("26 its parent's", a.score(0), 0);
        a.setParents(1, 0, 2);
        Check.due("26 its second parent's", a.score(1), 0);
        Check.due("26 its first parent's", a.score(2), 0);
        a.setParents(1, -1, -1);
        a.addLost();
        a.addLost();
        Check.due("26 lost ones alone", a.score(1), 0);
        a.setParents(0, 6, -1);
        a.setParents(1, 6, -1);
        a.setParents(2, 7, -1);
        a.setParents(3, 7, -1);
        Check.due("26 two groups", a.score(1), 2);
        Check.due("26 two sides", a.score(2), 0);
        a.setParents(7, 6, -1);
        Check.due("26 a lost one is unexplained", a.score(2), 1);
        a.setParents(3, 7, 0);
        Check.due("26 mixed", a.score(1), 1);
        for (int column = 0; column < 3; column++) {
            Check.due("27 the same", a.scoreAnew(column), a.score(column));
        }
        for (int wrong : row(3, -1, LOW, HIGH)) {
            Check.dueThrow("26 column " + wrong, INDEX, () -> a.score(wrong));
            Check.dueThrow("27 column " + wrong, INDEX, () -> a.scoreAnew(wrong));
        }
        WordwardenArchive b = make(row(1), row(2), row());
        b.setParents(1, 0, -1);
        b.setParents(2, 1, 0);
        Check.due("26 nothing is a reading too", b.score(0), 2);
        Check.due("27 nothing is a reading too", b.scoreAnew(0), 2);
        b.setNormal(2, 1);
        Check.due("27 forms", b.scoreAnew(0), 1);
    }

    // Promise 28
    private static void thought() {
        WordwardenArchive a = make(row(1), row(2), row(2), row(3));
        a.addLost();
        a.addLost();
        Check.due("28 the lowest", thoughts(a, 0, 2), "0 0");
        a.setParents(1, 6, -1);
        Check.due("28 what explains", thoughts(a, 0, 2), "1 0");
        a.setParents(3, 6, -1);
        Check.due("28 the lower of two", thoughts(a, 0, 2), "1 0");
        a.setParents(6, 7, -1);
        Check.due("28 a line of lost ones", thoughts(a, 0, 2), "1 1");
        a.setParents(0, 7, -1);
        Check.due("28 the first lost one's counts first", thoughts(a, 0, 2), "0 0");
        a.setParents(2, 6, -1);
        Check.due("28 more of them", thoughts(a, 0, 2), "1 0");
        Check.due("28 its score", a.score(0), 2);
        a.setParents(0, -1, -1);
        Check.due("28 freed", thoughts(a, 0, 2), "1 1");
        for (int wrong : row(1, -1, LOW, HIGH)) {
            Check.dueThrow("28 column " + wrong, INDEX, () -> a.thought(wrong, 6));
        }
        for (int wrong : row(0, 5, 8, 9, -1, LOW, HIGH)) {
            Check.dueThrow("28 lost one " + wrong, INDEX, () -> a.thought(0, wrong));
        }
    }

    // Promise 29
    private static void isCoherent() {
        WordwardenArchive a = make(row(1, 2), row(1, 2), row(1, 3));
        Check.due("29 apart", a.isCoherent(0), false);
        a.setParents(1, 0, -1);
        Check.due("29 two hang together", a.isCoherent(1), true);
        Check.due("29 the third does not", a.isCoherent(0), false);
        a.setParents(2, 1, -1);
        Check.due("29 a line", a.isCoherent(0), true);
        a.addLost();
        Check.due("29 a lost one is among them", a.isCoherent(0), false);
        a.setParents(2, 1, 6);
        Check.due("29 a child joins its parents", a.isCoherent(0), true);
        Check.due("29 by what it is thought to have", a.isCoherent(1), true);
        Check.due("29 thought of the child", a.thought(1, 6), 1);
        WordwardenArchive b = make(row(1), row(2), row(1));
        b.setParents(1, 0, -1);
        b.setParents(2, 1, -1);
        Check.due("29 not by others between", b.isCoherent(0), false);
        WordwardenArchive c = make(row(1), row(2), row(), row());
        Check.due("29 those without a word too", c.isCoherent(0), false);
        c.setParents(3, 2, -1);
        Check.due("29 together", c.isCoherent(0), true);
        WordwardenArchive d = make(row(1), row(1), row(1), row(1), row(1), row(1));
        for (int one : row(5, 3, 1, 4, 2)) {
            Check.due("29 not yet " + one, d.isCoherent(0), false);
            d.setParents(one, one - 1, -1);
        }
        Check.due("29 all", d.isCoherent(0), true);
        WordwardenArchive e = make(row(1), row(2), row(3));
        e.addLost();
        e.setParents(0, 6, -1);
        Check.due("29 the thought that stands, not the last that was tried", e.isCoherent(0), true);
        for (int wrong : row(1, -1, LOW, HIGH)) {
            Check.dueThrow("29 column " + wrong, INDEX, () -> d.isCoherent(wrong));
        }
    }

    // Promise 30
    private static void find() {
        WordwardenArchive a = make(row(1, 2, 1, 2), row(1, 2), row(1, 3, 2));
        Check.due("30 two pairs, of several witnesses", a.find(1, 2), 2);
        Check.due("30 in that order", a.find(2, 1), 1);
        Check.due("30 a word between", a.find(3, 2), 1);
        Check.due("30 not there", a.find(2, 3), 0);
        Check.due("30 not itself", a.find(3, 3), 0);
        WordwardenArchive b = make(row(1, 2, 3), row(1, 3));
        Check.due("30 passed by", b.find(1, 3), 1);
        b.setNormal(3, 2);
        Check.due("30 forms", b.find(1, 2), 2);
        Check.due("30 no longer a form", b.find(1, 3), 0);
        Check.due("30 twice the same", b.find(2, 2), 1);
        Check.due("30 not of two witnesses", make(row(1, 5), row(4, 2)).find(1, 2), 0);
        for (int wrong : row(0, -1, 100, LOW, HIGH)) {
            Check.dueThrow("30 first " + wrong, ARGUMENT, () -> a.find(wrong, 1));
            Check.dueThrow("30 second " + wrong, ARGUMENT, () -> a.find(1, wrong));
        }
    }

    // Promise 31
    private static void total() {
        WordwardenArchive a = make(row(1, 2, 3), row(4, 5, 3), row(4, 2, 6));
        Check.due("31 none", a.total(), 0L);
        a.setParents(1, 0, -1);
        Check.due("31 two", a.total(), 2L);
        a.setParents(2, 0, 1);
        Check.due("31 three", a.total(), 3L);
        a.use(0, true);
        a.correct(0, 0, 4);
        Check.due("31 as used", a.total(), 2L);
        Check.due("31 no columns", make(row()).total(), 0L);
    }

    // Promise 32
    private static void variantShare() {
        Check.due("32 none", make(row(1)).variantShare(), 0.0f);
        Check.due("32 all", make(row(1), row(2)).variantShare(), 1.0f);
        Check.due("32 a third", make(row(1, 2, 3), row(1, 4, 3)).variantShare(), 1.0f / 3.0f);
        Check.dueThrow("32 no witness", NUMBER, () -> new WordwardenArchive().variantShare());
        Check.dueThrow("32 no columns", NUMBER, () -> make(row(), row()).variantShare());
    }

    // Promise 33
    private static void meanDistance() {
        Check.due("33 of two", make(row(1), row(2)).meanDistance(), 3.0);
        Check.due("33 of three", make(row(1), row(1), row(2, 1)).meanDistance(), 8.0 / 6.0);
        Check.due("33 of empty ones", make(row(), row()).meanDistance(), 0.0);
        Check.dueThrow("33 none", NUMBER, () -> new WordwardenArchive().meanDistance());
        Check.dueThrow("33 one", NUMBER, () -> make(row(1)).meanDistance());
    }

    // Promise 34
    private static void isSound() {
        WordwardenArchive a = make(row(1, 2, 3, 4, 5, 6, 7, 8), row(8, 7, 6, 5, 4, 3, 2, 1), row(9, 1, 9, 2), row(3));
        a.addWitness();
        a.addLost();
        a.addLost();
        a.addLost();
        a.setParents(0, 6, 7);
        a.setParents(1, 7, 8);
        a.setParents(2, 0, 8);
        a.setParents(6, 8, -1);
        for (int base = 0; base < 5; base++) {
            a.setBase(base);
            Check.due("34 base " + base, a.isSound(), true);
        }
        a.correct(0, 3, 0);
        a.use(0, true);
        a.setNormal(9, 1);
        a.choose(0, 1);
        Check.due("34 changed", a.isSound(), true);
    }

    /** A question that is the first one after a change is answered by what stands now. */
    private static void firstQuestions() {
        Check.due("10 asked first", make(row(1, 2)).columns(), 2);
        Check.due("11 asked first", make(row(1, 2)).at(1, 0), 2);
        Check.due("12 asked first", make(row(1), row(2)).readings(0), 2);
        Check.due("13 asked first", make(row(1), row(2)).readingOf(0, 1), 1);
        Check.due("14 asked first", make(row(1), row(2)).reading(0, 1), 2);
        Check.due("15 asked first", make(row(1), row(2)).variants(), 1);
        Check.due("17 asked first", make(row(1, 2), row(1)).noteColumn(0), 1);
        Check.due("18 asked first", make(row(1, 2), row(1)).noteSize(0), 1);
        Check.due("19 asked first", make(row(1, 2), row(1)).readBack(0, 1), 2);
        Check.due("20 asked first", make(row(1, 2), row(1)).choose(1, 1), 0);
        Check.due("22 asked first", make(row(1, 2), row(1)).editionLength(), 2);
        Check.due("23 asked first", make(row(1, 2), row(1)).lineOf(1), 0);
        Check.due("26 asked first", make(row(1, 2), row(1)).score(1), 0);
        Check.due("27 asked first", make(row(1, 2), row(1)).scoreAnew(1), 0);
        WordwardenArchive a = make(row(1), row(2));
        a.addLost();
        a.setParents(1, 6, 0);
        a.setParents(0, -1, -1);
        Check.due("28 asked first", a.thought(0, 6), 1);
        Check.due("29 asked first", make(row(1), row(2)).isCoherent(0), true);
        Check.due("30 asked first", make(row(1, 2)).find(1, 2), 1);
        WordwardenArchive b = make(row(1), row(2));
        b.setParents(1, 0, -1);
        Check.due("31 asked first", b.total(), 1L);
        Check.due("32 asked first", make(row(1), row(2)).variantShare(), 1.0f);
        Check.due("34 asked first", make(row(1), row(2)).isSound(), true);
    }
}
