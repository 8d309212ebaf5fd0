import java.util.NoSuchElementException;

/** A store of a text in many versions, with its collation, apparatus, edition and stemma. */
public final class WordwardenArchive {
    private static final int WITNESS_LIMIT = 6;
    private static final int PLACE_LIMIT = 8;
    private static final int WORD_LIMIT = 99;
    private static final int COLUMN_LIMIT = WITNESS_LIMIT * PLACE_LIMIT;
    private static final int LOST_LIMIT = 3;
    private static final int FIRST_LOST = WITNESS_LIMIT;
    private static final int ONE_LIMIT = FIRST_LOST + LOST_LIMIT;
    private static final int FIRST_LINE_LENGTH = 5;
    private static final int LINE_LENGTH_LIMIT = 9;
    private static final int SIDE_LIMIT = 100;

    private static final int NO_WORD = 0;
    private static final int NONE = -1;

    private static final int SAME_FORM_COST = 1;
    private static final int OTHER_WORD_COST = 3;
    private static final int GAP_COST = 2;

    private static final int PUT = 0;
    private static final int PASS = 1;
    private static final int NEW = 2;

    private final Lexicon lexicon;
    private final Texts texts;
    private final Collation collation;
    private final Variation variation;
    private final Apparatus apparatus;
    private final Edition edition;
    private final Stemma stemma;
    private int base;
    private boolean isStale;

    public WordwardenArchive() {
        lexicon = new Lexicon();
        texts = new Texts();
        collation = new Collation();
        variation = new Variation();
        apparatus = new Apparatus();
        edition = new Edition();
        stemma = new Stemma();
        base = 0;
        isStale = false;
    }

    // Words and witnesses

    public int setNormal(int word, int normal) throws IllegalArgumentException {
        if (!isWord(word) || !isWord(normal)) {
            throw new IllegalArgumentException("no such word");
        }
        int before = lexicon.normalOf(word);
        lexicon.learn(word, normal);
        markChanged();
        return before;
    }

    public int addWitness() throws IllegalStateException {
        if (texts.witnessCount() >= WITNESS_LIMIT) {
            throw new IllegalStateException("no room for a witness");
        }
        int witness = texts.openWitness();
        markChanged();
        return witness;
    }

    public int addWord(int witness, int word)
            throws IndexOutOfBoundsException, IllegalArgumentException, IllegalStateException {
        if (!texts.hasWitness(witness)) {
            throw new IndexOutOfBoundsException("no such witness");
        }
        if (!isWord(word)) {
            throw new IllegalArgumentException("no such word");
        }
        if (texts.placeCount(witness) >= PLACE_LIMIT) {
            throw new IllegalStateException("no room for a word");
        }
        texts.write(witness, word);
        markChanged();
        return texts.placeCount(witness);
    }

    public int correct(int witness, int place, int word)
            throws IndexOutOfBoundsException, IllegalArgumentException {
        if (!texts.hasWitness(witness) || place < 0 || place >= texts.placeCount(witness)) {
            throw new IndexOutOfBoundsException("no such witness or place");
        }
        if (word != NONE && word != NO_WORD && !isWord(word)) {
            throw new IllegalArgumentException("no such correction");
        }
        int before = texts.correctionAt(witness, place);
        texts.amend(witness, place, word);
        markChanged();
        return before;
    }

    public boolean use(int witness, boolean isCorrected) throws IndexOutOfBoundsException {
        if (!texts.hasWitness(witness)) {
            throw new IndexOutOfBoundsException("no such witness");
        }
        boolean before = texts.isUsedCorrected(witness);
        texts.takeAs(witness, isCorrected);
        markChanged();
        return before;
    }

    public int length(int witness) throws IndexOutOfBoundsException {
        if (!texts.hasWitness(witness)) {
            throw new IndexOutOfBoundsException("no such witness");
        }
        return texts.textLength(witness);
    }

    public int wordAt(int witness, int index) throws IndexOutOfBoundsException, NoSuchElementException {
        if (!texts.hasWitness(witness)) {
            throw new IndexOutOfBoundsException("no such witness");
        }
        if (index < 0 || index >= texts.textLength(witness)) {
            throw new NoSuchElementException("no such index");
        }
        return texts.textWord(witness, index);
    }

    // Collation

    public int distance(int first, int second) throws IndexOutOfBoundsException {
        if (!texts.hasWitness(first) || !texts.hasWitness(second)) {
            throw new IndexOutOfBoundsException("no such witness");
        }
        return collation.costApart(texts, first, second, lexicon);
    }

    public int columns() {
        refresh();
        return collation.columnCount();
    }

    public int at(int column, int witness) throws IndexOutOfBoundsException {
        refresh();
        if (!isColumn(column) || !texts.hasWitness(witness)) {
            throw new IndexOutOfBoundsException("no such column or witness");
        }
        return collation.wordIn(column, witness);
    }

    public int readings(int column) throws IndexOutOfBoundsException {
        refresh();
        if (!isColumn(column)) {
            throw new IndexOutOfBoundsException("no such column");
        }
        return variation.readingCount(column);
    }

    public int readingOf(int column, int witness) throws IndexOutOfBoundsException {
        refresh();
        if (!isColumn(column) || !texts.hasWitness(witness)) {
            throw new IndexOutOfBoundsException("no such column or witness");
        }
        return variation.numberOf(column, witness);
    }

    public int reading(int column, int reading) throws IndexOutOfBoundsException, NoSuchElementException {
        refresh();
        if (!isColumn(column)) {
            throw new IndexOutOfBoundsException("no such column");
        }
        if (reading < 0 || reading >= variation.readingCount(column)) {
            throw new NoSuchElementException("no such reading");
        }
        return variation.formOf(column, reading);
    }

    public int variants() {
        refresh();
        return variation.countVariants(collation.columnCount());
    }

    // Apparatus and edition

    public int setBase(int witness) throws IndexOutOfBoundsException {
        if (!texts.hasWitness(witness)) {
            throw new IndexOutOfBoundsException("no such witness");
        }
        int before = base;
        base = witness;
        markChanged();
        return before;
    }

    public int noteColumn(int index) throws IndexOutOfBoundsException {
        refresh();
        if (index < 0 || index >= apparatus.noteCount()) {
            throw new IndexOutOfBoundsException("no such index");
        }
        return apparatus.columnOf(index);
    }

    public int noteSize(int index) throws IndexOutOfBoundsException {
        refresh();
        if (index < 0 || index >= apparatus.noteCount()) {
            throw new IndexOutOfBoundsException("no such index");
        }
        return apparatus.toldCount(index);
    }

    public int readBack(int witness, int index) throws IndexOutOfBoundsException, NoSuchElementException {
        if (!texts.hasWitness(witness)) {
            throw new IndexOutOfBoundsException("no such witness");
        }
        refresh();
        int restored = apparatus.restore(witness);
        if (index < 0 || index >= restored) {
            throw new NoSuchElementException("no such index");
        }
        return apparatus.restoredForm(index);
    }

    public int choose(int column, int reading) throws IndexOutOfBoundsException, NoSuchElementException {
        refresh();
        if (!isColumn(column)) {
            throw new IndexOutOfBoundsException("no such column");
        }
        if (reading < 0 || reading >= variation.readingCount(column)) {
            throw new NoSuchElementException("no such reading");
        }
        int before = edition.numberIn(column, variation, base);
        edition.pick(column, reading);
        return before;
    }

    public int setLine(int length) throws IllegalArgumentException {
        if (length < 1 || length > LINE_LENGTH_LIMIT) {
            throw new IllegalArgumentException("no such length of lines");
        }
        int before = edition.lineLength();
        edition.rule(length);
        return before;
    }

    public int editionLength() {
        refresh();
        return edition.countWords(collation.columnCount(), variation, base);
    }

    public int lineOf(int column) throws IndexOutOfBoundsException {
        refresh();
        if (!isColumn(column)) {
            throw new IndexOutOfBoundsException("no such column");
        }
        return edition.lineIn(column, variation, base);
    }

    // Stemma

    public int addLost() throws IllegalStateException {
        if (stemma.lostCount() >= LOST_LIMIT) {
            throw new IllegalStateException("no room for a lost one");
        }
        return stemma.openLost();
    }

    public int setParents(int child, int first, int second)
            throws IndexOutOfBoundsException, IllegalArgumentException, UnsupportedOperationException {
        if (!isOne(child) || !isOneOrNone(first) || !isOneOrNone(second)) {
            throw new IndexOutOfBoundsException("no such one");
        }
        if (second != NONE && (first == NONE || first == second)) {
            throw new IllegalArgumentException("no such pair of parents");
        }
        if (stemma.isRing(child, first, second)) {
            throw new UnsupportedOperationException("a ring");
        }
        int before = stemma.parentCount(child);
        stemma.join(child, first, second);
        return before;
    }

    public int score(int column) throws IndexOutOfBoundsException {
        refresh();
        if (!isColumn(column)) {
            throw new IndexOutOfBoundsException("no such column");
        }
        return leastUnexplained(column);
    }

    public int scoreAnew(int column) throws IndexOutOfBoundsException {
        refresh();
        if (!isColumn(column)) {
            throw new IndexOutOfBoundsException("no such column");
        }
        return leastUnexplainedOfAll(column);
    }

    public int thought(int column, int lost) throws IndexOutOfBoundsException {
        refresh();
        if (!isColumn(column) || !stemma.hasLost(lost)) {
            throw new IndexOutOfBoundsException("no such column or lost one");
        }
        leastUnexplained(column);
        return stemma.readingThought(lost);
    }

    public boolean isCoherent(int column) throws IndexOutOfBoundsException {
        refresh();
        if (!isColumn(column)) {
            throw new IndexOutOfBoundsException("no such column");
        }
        leastUnexplained(column);
        return stemma.hangsTogether();
    }

    // Searches and figures

    public int find(int first, int second) throws IllegalArgumentException {
        if (!isWord(first) || !isWord(second)) {
            throw new IllegalArgumentException("no such word");
        }
        refresh();
        int all = collation.columnCount();
        int found = 0;
        for (int column = 0; column < all; column++) {
            found += countPairsFrom(column, first, second);
        }
        return found;
    }

    public long total() {
        refresh();
        int all = collation.columnCount();
        long sum = 0;
        for (int column = 0; column < all; column++) {
            sum += leastUnexplained(column);
        }
        return sum;
    }

    public float variantShare() throws ArithmeticException {
        refresh();
        int all = collation.columnCount();
        if (all < 1) {
            throw new ArithmeticException("no columns");
        }
        return (float) variation.countVariants(all) / (float) all;
    }

    public double meanDistance() throws ArithmeticException {
        int witnesses = texts.witnessCount();
        if (witnesses < 2) {
            throw new ArithmeticException("less than two witnesses");
        }
        int pairs = witnesses * (witnesses - 1);
        return (double) sumOfDistances(witnesses) / (double) pairs;
    }

    public boolean isSound() {
        refresh();
        int witnesses = texts.witnessCount();
        for (int witness = 0; witness < witnesses; witness++) {
            if (!isReadBackWhole(witness) || !collation.isInOrder(texts, witness)) {
                return false;
            }
        }
        int all = collation.columnCount();
        for (int column = 0; column < all; column++) {
            if (leastUnexplained(column) != leastUnexplainedOfAll(column)) {
                return false;
            }
        }
        return true;
    }

    // What the calls above share

    private static boolean isWord(int number) {
        return number >= 1 && number <= WORD_LIMIT;
    }

    private boolean isColumn(int number) {
        return number >= 0 && number < collation.columnCount();
    }

    private boolean isOne(int number) {
        return texts.hasWitness(number) || stemma.hasLost(number);
    }

    private boolean isOneOrNone(int number) {
        return number == NONE || isOne(number);
    }

    /** The calls that can change the columns or the base are the very ones that make the edition forget. */
    private void markChanged() {
        isStale = true;
        edition.forget();
    }

    private void refresh() {
        if (!isStale) {
            return;
        }
        int witnesses = texts.witnessCount();
        collation.clear();
        for (int witness = 0; witness < witnesses; witness++) {
            collation.addText(texts, witness, lexicon);
        }
        variation.build(collation, witnesses, lexicon);
        apparatus.build(variation, collation.columnCount(), witnesses, base);
        apparatus.copyBase(texts, lexicon, base);
        isStale = false;
    }

    private int leastUnexplained(int column) {
        stemma.load(variation, column, texts.witnessCount());
        return stemma.solve();
    }

    private int leastUnexplainedOfAll(int column) {
        stemma.load(variation, column, texts.witnessCount());
        return stemma.tryAllWays();
    }

    /** A pair of columns counts once, for the first witness that has the two forms there. */
    private int countPairsFrom(int column, int first, int second) {
        int witnesses = texts.witnessCount();
        int pairs = 0;
        for (int witness = 0; witness < witnesses; witness++) {
            int partner = partnerColumn(column, witness, first, second);
            boolean isNew = partner != NONE;
            for (int earlier = 0; earlier < witness && isNew; earlier++) {
                isNew = partnerColumn(column, earlier, first, second) != partner;
            }
            if (isNew) {
                pairs++;
            }
        }
        return pairs;
    }

    private int partnerColumn(int column, int witness, int first, int second) {
        if (variation.formIn(column, witness) != first) {
            return NONE;
        }
        int all = collation.columnCount();
        for (int next = column + 1; next < all; next++) {
            int form = variation.formIn(next, witness);
            if (form != NO_WORD) {
                return form == second ? next : NONE;
            }
        }
        return NONE;
    }

    private long sumOfDistances(int witnesses) {
        long sum = 0;
        for (int first = 0; first < witnesses; first++) {
            for (int second = 0; second < witnesses; second++) {
                if (first != second) {
                    sum += collation.costApart(texts, first, second, lexicon);
                }
            }
        }
        return sum;
    }

    private boolean isReadBackWhole(int witness) {
        int words = texts.textLength(witness);
        if (apparatus.restore(witness) != words) {
            return false;
        }
        for (int index = 0; index < words; index++) {
            if (apparatus.restoredForm(index) != lexicon.normalOf(texts.textWord(witness, index))) {
                return false;
            }
        }
        return true;
    }

    /** A row of numbers that looks at each index: 0 is read beyond its ends, and nothing is written there. */
    private static final class Row {
        private final int[] items;

        Row(int size) {
            items = new int[size >= 0 && size <= SIDE_LIMIT ? size : 0];
        }

        int get(int index) {
            return index >= 0 && index < items.length ? items[index] : 0;
        }

        void put(int index, int item) {
            if (index >= 0 && index < items.length) {
                items[index] = item;
            }
        }

        void fill(int item) {
            for (int index = 0; index < items.length; index++) {
                items[index] = item;
            }
        }
    }

    /** Rows of one width, which look at each index as a single row does. */
    private static final class Grid {
        private final int height;
        private final int width;
        private final int[] items;

        Grid(int height, int width) {
            this.height = height >= 0 && height <= SIDE_LIMIT ? height : 0;
            this.width = width >= 0 && width <= SIDE_LIMIT ? width : 0;
            this.items = new int[this.height * this.width];
        }

        int get(int row, int place) {
            if (row < 0 || row >= height || place < 0 || place >= width) {
                return 0;
            }
            int index = row * width + place;
            return index < items.length ? items[index] : 0;
        }

        void put(int row, int place, int item) {
            if (row < 0 || row >= height || place < 0 || place >= width) {
                return;
            }
            int index = row * width + place;
            if (index < items.length) {
                items[index] = item;
            }
        }

        void fill(int item) {
            for (int index = 0; index < items.length; index++) {
                items[index] = item;
            }
        }

        void copyRow(int row, Grid source, int sourceRow) {
            for (int place = 0; place < width; place++) {
                put(row, place, source.get(sourceRow, place));
            }
        }
    }

    /** The normal forms of all words. */
    private static final class Lexicon {
        private final Row normals;

        Lexicon() {
            normals = new Row(WORD_LIMIT + 1);
            for (int word = 1; word <= WORD_LIMIT; word++) {
                normals.put(word, word);
            }
        }

        int normalOf(int word) {
            return normals.get(word);
        }

        void learn(int word, int normal) {
            normals.put(word, normal);
        }

        int costBeside(int word, int other) {
            if (word == other) {
                return 0;
            }
            return normals.get(word) == normals.get(other) ? SAME_FORM_COST : OTHER_WORD_COST;
        }
    }

    /** What each witness wrote and corrected, and the text that it has as it is used. */
    private static final class Texts {
        private final Grid words;
        private final Grid corrections;
        private final Row placeCounts;
        private final Row uses;
        private final Grid textWords;
        private final Row textLengths;
        private int witnesses;

        Texts() {
            words = new Grid(WITNESS_LIMIT, PLACE_LIMIT);
            corrections = new Grid(WITNESS_LIMIT, PLACE_LIMIT);
            placeCounts = new Row(WITNESS_LIMIT);
            uses = new Row(WITNESS_LIMIT);
            textWords = new Grid(WITNESS_LIMIT, PLACE_LIMIT);
            textLengths = new Row(WITNESS_LIMIT);
            witnesses = 0;
        }

        int witnessCount() {
            return witnesses;
        }

        boolean hasWitness(int witness) {
            return witness >= 0 && witness < witnesses;
        }

        int placeCount(int witness) {
            return placeCounts.get(witness);
        }

        int correctionAt(int witness, int place) {
            return corrections.get(witness, place);
        }

        boolean isUsedCorrected(int witness) {
            return uses.get(witness) != 0;
        }

        int textLength(int witness) {
            return textLengths.get(witness);
        }

        int textWord(int witness, int index) {
            return textWords.get(witness, index);
        }

        int openWitness() {
            int witness = witnesses;
            witnesses++;
            return witness;
        }

        void write(int witness, int word) {
            int place = placeCounts.get(witness);
            words.put(witness, place, word);
            corrections.put(witness, place, NONE);
            placeCounts.put(witness, place + 1);
            spell(witness);
        }

        void amend(int witness, int place, int word) {
            corrections.put(witness, place, word);
            spell(witness);
        }

        void takeAs(int witness, boolean isCorrected) {
            uses.put(witness, isCorrected ? 1 : 0);
            spell(witness);
        }

        private void spell(int witness) {
            int places = placeCounts.get(witness);
            int length = 0;
            for (int place = 0; place < places; place++) {
                int word = usedWord(witness, place);
                if (word != NO_WORD) {
                    textWords.put(witness, length, word);
                    length++;
                }
            }
            textLengths.put(witness, length);
        }

        private int usedWord(int witness, int place) {
            int correction = corrections.get(witness, place);
            boolean isReplaced = isUsedCorrected(witness) && correction != NONE;
            return isReplaced ? correction : words.get(witness, place);
        }
    }

    /** What it costs least to put a text to columns, from each column and word on. */
    private static final class Aligner {
        private final Grid putCosts;
        private final Grid restCosts;
        private int columnCount;
        private int wordCount;

        Aligner() {
            putCosts = new Grid(COLUMN_LIMIT, PLACE_LIMIT);
            restCosts = new Grid(COLUMN_LIMIT + 1, PLACE_LIMIT + 1);
            columnCount = 0;
            wordCount = 0;
        }

        /** The costs are told from the end, so that a way can be walked from the first column on. */
        int measure(Grid cells, int columnsThere, Texts texts, int witness, Lexicon lexicon) {
            columnCount = columnsThere;
            wordCount = texts.textLength(witness);
            for (int column = columnCount; column >= 0; column--) {
                for (int index = wordCount; index >= 0; index--) {
                    if (column < columnCount && index < wordCount) {
                        int word = texts.textWord(witness, index);
                        putCosts.put(column, index, costInColumn(cells, column, word, lexicon));
                    }
                    restCosts.put(column, index, costFrom(column, index));
                }
            }
            return restCosts.get(0, 0);
        }

        int stepAt(int column, int index) {
            int cost = restCosts.get(column, index);
            boolean hasColumn = column < columnCount;
            if (hasColumn && index < wordCount && cost == costByPut(column, index)) {
                return PUT;
            }
            return hasColumn && cost == costByPass(column, index) ? PASS : NEW;
        }

        private static int costInColumn(Grid cells, int column, int word, Lexicon lexicon) {
            int least = OTHER_WORD_COST;
            for (int witness = 0; witness < WITNESS_LIMIT; witness++) {
                int other = cells.get(column, witness);
                if (other != NO_WORD) {
                    least = Math.min(least, lexicon.costBeside(word, other));
                }
            }
            return least;
        }

        private int costFrom(int column, int index) {
            boolean hasColumn = column < columnCount;
            boolean hasWord = index < wordCount;
            if (hasColumn && hasWord) {
                int gap = Math.min(costByPass(column, index), costByNew(column, index));
                return Math.min(costByPut(column, index), gap);
            }
            if (hasColumn) {
                return costByPass(column, index);
            }
            return hasWord ? costByNew(column, index) : 0;
        }

        private int costByPut(int column, int index) {
            return putCosts.get(column, index) + restCosts.get(column + 1, index + 1);
        }

        private int costByPass(int column, int index) {
            return GAP_COST + restCosts.get(column + 1, index);
        }

        private int costByNew(int column, int index) {
            return GAP_COST + restCosts.get(column, index + 1);
        }
    }

    /** The columns, with the word of each witness in them. */
    private static final class Collation {
        private final Aligner aligner;
        private final Grid cells;
        private final Grid draft;
        private int count;

        Collation() {
            aligner = new Aligner();
            cells = new Grid(COLUMN_LIMIT, WITNESS_LIMIT);
            draft = new Grid(COLUMN_LIMIT, WITNESS_LIMIT);
            count = 0;
        }

        int columnCount() {
            return count;
        }

        int wordIn(int column, int witness) {
            return cells.get(column, witness);
        }

        void clear() {
            count = 0;
        }

        /** Where no columns are, each word makes a new one: so the first text makes the first columns. */
        void addText(Texts texts, int witness, Lexicon lexicon) {
            int words = texts.textLength(witness);
            aligner.measure(cells, count, texts, witness, lexicon);
            draft.fill(NO_WORD);
            int column = 0;
            int index = 0;
            int made = 0;
            for (int step = 0; step < COLUMN_LIMIT && (column < count || index < words); step++) {
                int kind = aligner.stepAt(column, index);
                if (kind != NEW) {
                    draft.copyRow(made, cells, column);
                    column++;
                }
                if (kind != PASS) {
                    draft.put(made, witness, texts.textWord(witness, index));
                    index++;
                }
                made++;
            }
            takeDraft(made);
        }

        private void takeDraft(int made) {
            for (int column = 0; column < made; column++) {
                cells.copyRow(column, draft, column);
            }
            count = made;
        }

        int costApart(Texts texts, int first, int second, Lexicon lexicon) {
            draft.fill(NO_WORD);
            int words = texts.textLength(first);
            for (int index = 0; index < words; index++) {
                draft.put(index, first, texts.textWord(first, index));
            }
            return aligner.measure(draft, words, texts, second, lexicon);
        }

        boolean isInOrder(Texts texts, int witness) {
            int words = texts.textLength(witness);
            int index = 0;
            for (int column = 0; column < count; column++) {
                int word = cells.get(column, witness);
                if (word != NO_WORD) {
                    if (index >= words || texts.textWord(witness, index) != word) {
                        return false;
                    }
                    index++;
                }
            }
            return index == words;
        }
    }

    /** The readings of each column, numbered by the first witness that has them. */
    private static final class Variation {
        private final Grid forms;
        private final Grid numbers;
        private final Row counts;

        Variation() {
            forms = new Grid(COLUMN_LIMIT, WITNESS_LIMIT);
            numbers = new Grid(COLUMN_LIMIT, WITNESS_LIMIT);
            counts = new Row(COLUMN_LIMIT);
        }

        void build(Collation collation, int witnesses, Lexicon lexicon) {
            int all = collation.columnCount();
            for (int column = 0; column < all; column++) {
                counts.put(column, 0);
                for (int witness = 0; witness < witnesses; witness++) {
                    int form = lexicon.normalOf(collation.wordIn(column, witness));
                    numbers.put(column, witness, enter(column, form));
                }
            }
        }

        private int enter(int column, int form) {
            int count = counts.get(column);
            for (int number = 0; number < count; number++) {
                if (forms.get(column, number) == form) {
                    return number;
                }
            }
            forms.put(column, count, form);
            counts.put(column, count + 1);
            return count;
        }

        int readingCount(int column) {
            return counts.get(column);
        }

        int numberOf(int column, int witness) {
            return numbers.get(column, witness);
        }

        int formOf(int column, int number) {
            return forms.get(column, number);
        }

        int formIn(int column, int witness) {
            return formOf(column, numberOf(column, witness));
        }

        boolean isVariant(int column) {
            return counts.get(column) > 1;
        }

        int countVariants(int columnCount) {
            int variants = 0;
            for (int column = 0; column < columnCount; column++) {
                if (isVariant(column)) {
                    variants++;
                }
            }
            return variants;
        }
    }

    /**
     * The notes on the text of the base. A note tells its column, what the base has there (else nobody could
     * tell from its text whether it has a word there), and the readings that are another one.
     */
    private static final class Apparatus {
        private final Row noteColumns;
        private final Row baseForms;
        private final Grid told;
        private final Row toldCounts;
        private final Row baseText;
        private final Row restored;
        private int notes;
        private int baseLength;

        Apparatus() {
            noteColumns = new Row(COLUMN_LIMIT);
            baseForms = new Row(COLUMN_LIMIT);
            told = new Grid(COLUMN_LIMIT, WITNESS_LIMIT);
            toldCounts = new Row(COLUMN_LIMIT);
            baseText = new Row(PLACE_LIMIT);
            restored = new Row(COLUMN_LIMIT);
            notes = 0;
            baseLength = 0;
        }

        int noteCount() {
            return notes;
        }

        int columnOf(int note) {
            return noteColumns.get(note);
        }

        int toldCount(int note) {
            return toldCounts.get(note);
        }

        int restoredForm(int index) {
            return restored.get(index);
        }

        void copyBase(Texts texts, Lexicon lexicon, int base) {
            baseLength = texts.textLength(base);
            for (int index = 0; index < baseLength; index++) {
                baseText.put(index, lexicon.normalOf(texts.textWord(base, index)));
            }
        }

        void build(Variation variation, int columnCount, int witnesses, int base) {
            notes = 0;
            for (int column = 0; column < columnCount; column++) {
                if (variation.isVariant(column)) {
                    noteColumns.put(notes, column);
                    baseForms.put(notes, variation.formIn(column, base));
                    tellOthers(variation, column, witnesses);
                    notes++;
                }
            }
        }

        private void tellOthers(Variation variation, int column, int witnesses) {
            int count = 0;
            for (int witness = 0; witness < witnesses; witness++) {
                int form = variation.formIn(column, witness);
                boolean isOther = form != baseForms.get(notes);
                told.put(notes, witness, isOther ? form : NONE);
                if (isOther) {
                    count++;
                }
            }
            toldCounts.put(notes, count);
        }

        /** A column without a note has the next word of the base, and every witness has that word. */
        int restore(int witness) {
            int count = 0;
            int index = 0;
            int note = 0;
            for (int column = 0; column < COLUMN_LIMIT && (index < baseLength || note < notes); column++) {
                boolean isNoted = note < notes && noteColumns.get(note) == column;
                int baseForm = isNoted ? baseForms.get(note) : baseText.get(index);
                int form = isNoted ? noted(note, witness) : baseForm;
                if (form != NO_WORD) {
                    restored.put(count, form);
                    count++;
                }
                if (baseForm != NO_WORD) {
                    index++;
                }
                if (isNoted) {
                    note++;
                }
            }
            return count;
        }

        private int noted(int note, int witness) {
            int form = told.get(note, witness);
            return form == NONE ? baseForms.get(note) : form;
        }
    }

    /** The readings that were chosen, and the lines in which the words of the edition stand. */
    private static final class Edition {
        private final Row chosen;
        private int line;

        Edition() {
            chosen = new Row(COLUMN_LIMIT);
            chosen.fill(NONE);
            line = FIRST_LINE_LENGTH;
        }

        void forget() {
            chosen.fill(NONE);
        }

        void pick(int column, int number) {
            chosen.put(column, number);
        }

        int lineLength() {
            return line;
        }

        void rule(int length) {
            line = length;
        }

        int numberIn(int column, Variation variation, int base) {
            int number = chosen.get(column);
            return number == NONE ? variation.numberOf(column, base) : number;
        }

        private boolean hasWord(int column, Variation variation, int base) {
            return variation.formOf(column, numberIn(column, variation, base)) != NO_WORD;
        }

        int countWords(int columnCount, Variation variation, int base) {
            int words = 0;
            for (int column = 0; column < columnCount; column++) {
                if (hasWord(column, variation, base)) {
                    words++;
                }
            }
            return words;
        }

        int lineIn(int column, Variation variation, int base) {
            if (line < 1 || !hasWord(column, variation, base)) {
                return NONE;
            }
            return countWords(column, variation, base) / line;
        }
    }

    /** Who was copied from whom; for the column that was loaded last, what that explains. */
    private static final class Stemma {
        private final Row firstParents;
        private final Row secondParents;
        private final Row numbers;
        private final Row thoughts;
        private final Row marks;
        private int losts;
        private int witnesses;
        private int readingCount;
        private int least;

        Stemma() {
            firstParents = new Row(ONE_LIMIT);
            secondParents = new Row(ONE_LIMIT);
            firstParents.fill(NONE);
            secondParents.fill(NONE);
            numbers = new Row(ONE_LIMIT);
            thoughts = new Row(ONE_LIMIT);
            marks = new Row(ONE_LIMIT);
            losts = 0;
            witnesses = 0;
            readingCount = 0;
            least = 0;
        }

        int lostCount() {
            return losts;
        }

        boolean hasLost(int number) {
            return number >= FIRST_LOST && number < FIRST_LOST + losts;
        }

        int openLost() {
            int number = FIRST_LOST + losts;
            losts++;
            return number;
        }

        int parentCount(int child) {
            if (firstParents.get(child) == NONE) {
                return 0;
            }
            return secondParents.get(child) == NONE ? 1 : 2;
        }

        void join(int child, int first, int second) {
            firstParents.put(child, first);
            secondParents.put(child, second);
        }

        /** No line of parents is longer than all ones are, so as many rounds mark all that stand above. */
        boolean isRing(int child, int first, int second) {
            marks.fill(0);
            marks.put(first, 1);
            marks.put(second, 1);
            for (int round = 0; round < ONE_LIMIT; round++) {
                for (int one = 0; one < ONE_LIMIT; one++) {
                    if (marks.get(one) != 0) {
                        marks.put(firstParents.get(one), 1);
                        marks.put(secondParents.get(one), 1);
                    }
                }
            }
            return marks.get(child) != 0;
        }

        void load(Variation variation, int column, int witnessCount) {
            witnesses = witnessCount;
            readingCount = variation.readingCount(column);
            for (int witness = 0; witness < witnesses; witness++) {
                numbers.put(witness, variation.numberOf(column, witness));
            }
        }

        int readingThought(int lost) {
            return thoughts.get(lost);
        }

        /** Lower numbers are tried first, and only a better way replaces one: so the lowest numbers stand. */
        int solve() {
            least = ONE_LIMIT + 1;
            branch(this, FIRST_LOST, countSettledBy(NONE));
            return least;
        }

        private static void branch(Stemma stemma, int lost, int unexplained) {
            if (unexplained >= stemma.least) {
                return;
            }
            if (!stemma.hasLost(lost)) {
                stemma.least = unexplained;
                stemma.keepThoughts();
                return;
            }
            for (int number = 0; number < stemma.readingCount; number++) {
                stemma.numbers.put(lost, number);
                branch(stemma, lost + 1, unexplained + stemma.countSettledBy(lost));
            }
        }

        private void keepThoughts() {
            for (int lost = FIRST_LOST; lost < FIRST_LOST + losts; lost++) {
                thoughts.put(lost, numbers.get(lost));
            }
        }

        private int countSettledBy(int lost) {
            int count = 0;
            for (int one = 0; one < ONE_LIMIT; one++) {
                if (lastLostOf(one) == lost && isUnexplained(one)) {
                    count++;
                }
            }
            return count;
        }

        /** The lost one with the highest number that bears on whether this one is explained. */
        private int lastLostOf(int one) {
            int highest = Math.max(one, Math.max(firstParents.get(one), secondParents.get(one)));
            return highest >= FIRST_LOST ? highest : NONE;
        }

        private boolean isUnexplained(int one) {
            int first = firstParents.get(one);
            int second = secondParents.get(one);
            int number = numbers.get(one);
            return first != NONE && number != numbers.get(first)
                && (second == NONE || number != numbers.get(second));
        }

        private boolean agrees(int one, int parent) {
            return parent != NONE && numbers.get(one) == numbers.get(parent);
        }

        int tryAllWays() {
            int ways = 1;
            for (int lost = 0; lost < losts; lost++) {
                ways *= readingCount;
            }
            int fewest = ONE_LIMIT + 1;
            for (int way = 0; way < ways; way++) {
                spread(way);
                fewest = Math.min(fewest, countUnexplained());
            }
            return fewest;
        }

        /** The number of a way, written with as many digits as there are lost ones, gives each its reading. */
        private void spread(int way) {
            int rest = way;
            for (int lost = FIRST_LOST; lost < FIRST_LOST + losts && readingCount > 0; lost++) {
                numbers.put(lost, rest % readingCount);
                rest /= readingCount;
            }
        }

        private int countUnexplained() {
            int count = 0;
            for (int one = 0; one < ONE_LIMIT; one++) {
                if (isUnexplained(one)) {
                    count++;
                }
            }
            return count;
        }

        /** Call it after solve: the lost ones count with what they are thought to have. */
        boolean hangsTogether() {
            for (int one = 0; one < ONE_LIMIT; one++) {
                marks.put(one, one);
                if (hasLost(one)) {
                    numbers.put(one, thoughts.get(one));
                }
            }
            for (int round = 0; round < ONE_LIMIT; round++) {
                for (int one = 0; one < ONE_LIMIT; one++) {
                    mergeWith(one, firstParents.get(one));
                    mergeWith(one, secondParents.get(one));
                }
            }
            return isOneGroupEach();
        }

        private void mergeWith(int one, int parent) {
            if (agrees(one, parent)) {
                int lower = Math.min(marks.get(one), marks.get(parent));
                marks.put(one, lower);
                marks.put(parent, lower);
            }
        }

        private boolean isOneGroupEach() {
            for (int one = 0; one < ONE_LIMIT; one++) {
                for (int other = 0; other < one; other++) {
                    boolean isSame = isThere(one) && isThere(other) && agrees(one, other);
                    if (isSame && marks.get(one) != marks.get(other)) {
                        return false;
                    }
                }
            }
            return true;
        }

        private boolean isThere(int one) {
            return one < witnesses || hasLost(one);
        }
    }
}
