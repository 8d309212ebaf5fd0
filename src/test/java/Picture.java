/**
 * All that can be asked of an archive, as texts. Each part keeps within the calls that an object is good for, and the
 * last one asks by calls that change what they tell; so each part wants an archive of its own.
 */
final class Picture {
    static final int PARTS = 4;
    private static final int CALL_LIMIT = 512 - 120;
    /** One more than any archive has that is looked at, so that the end shows too. */
    private static final int COLUMNS_ASKED = 17;

    private final WordwardenArchive archive;
    private final StringBuilder text = new StringBuilder();
    private int calls = 0;

    private Picture(WordwardenArchive archive) {
        this.archive = archive;
    }

    static String part(int part, WordwardenArchive archive) {
        Picture picture = new Picture(archive);
        switch (part) {
            case 0 -> picture.askWitnesses();
            case 1 -> picture.askColumns();
            case 2 -> picture.askFigures();
            default -> picture.askByChanging();
        }
        Check.due("part " + part + " of the picture keeps within the calls", picture.calls <= CALL_LIMIT, true);
        return picture.text.toString();
    }

    private String ask(Check.Call call) {
        calls++;
        String answer = Check.outcome(call);
        text.append(answer).append(' ');
        return answer;
    }

    private void askWitnesses() {
        for (int witness = 0; witness < 7; witness++) {
            int one = witness;
            text.append("\nwitness ");
            ask(() -> archive.length(one));
            for (int index = 0; index < 9; index++) {
                int place = index;
                ask(() -> archive.wordAt(one, place));
                ask(() -> archive.readBack(one, place));
            }
            for (int second = 0; second < 6; second++) {
                int other = second;
                ask(() -> archive.distance(one, other));
            }
        }
    }

    private void askColumns() {
        int columns = Integer.parseInt(ask(archive::columns));
        for (int column = 0; column < columns; column++) {
            int one = column;
            text.append("\ncolumn ");
            int readings = Integer.parseInt(ask(() -> archive.readings(one)));
            for (int number = 0; number < readings; number++) {
                int reading = number;
                ask(() -> archive.reading(one, reading));
            }
            for (int number = 0; number < 6; number++) {
                int witness = number;
                ask(() -> archive.at(one, witness));
                ask(() -> archive.readingOf(one, witness));
            }
        }
    }

    private void askFigures() {
        ask(archive::variants);
        ask(archive::editionLength);
        ask(archive::total);
        ask(archive::variantShare);
        ask(archive::meanDistance);
        ask(archive::isSound);
        for (int pair = 0; pair < 25; pair++) {
            int one = pair;
            ask(() -> archive.find(1 + one / 5, 1 + one % 5));
        }
        for (int index = 0; index < COLUMNS_ASKED; index++) {
            int column = index;
            text.append("\ncolumn ");
            ask(() -> archive.lineOf(column));
            ask(() -> archive.score(column));
            ask(() -> archive.scoreAnew(column));
            ask(() -> archive.isCoherent(column));
            ask(() -> archive.noteColumn(column));
            ask(() -> archive.noteSize(column));
            for (int lost = 6; lost < 9; lost++) {
                int other = lost;
                ask(() -> archive.thought(column, other));
            }
        }
    }

    /** What was chosen is asked first, as most of the calls behind it forget it. */
    private void askByChanging() {
        for (int index = 0; index < COLUMNS_ASKED; index++) {
            int column = index;
            ask(() -> archive.choose(column, 0));
        }
        ask(() -> archive.setLine(5));
        ask(() -> archive.setBase(0));
        for (int one = 0; one < 9; one++) {
            int child = one;
            ask(() -> archive.setParents(child, -1, -1));
        }
        for (int one = 0; one < 6; one++) {
            int witness = one;
            ask(() -> archive.use(witness, false));
            for (int place = 0; place < 8; place++) {
                int there = place;
                ask(() -> archive.correct(witness, there, -1));
            }
            ask(() -> text(witness));
        }
        for (int number = 1; number <= 99; number++) {
            int word = number;
            ask(() -> archive.setNormal(word, word));
        }
        askHowMuchRoomIsLeft();
    }

    private String text(int witness) {
        calls += 2 * archive.length(witness);
        return ArchiveTests.text(archive, witness);
    }

    private void askHowMuchRoomIsLeft() {
        for (int one = 0; one < 6; one++) {
            int witness = one;
            ask(() -> archive.addWord(witness, 1));
        }
        for (int lost = 0; lost < 4; lost++) {
            ask(archive::addLost);
        }
        ask(archive::addWitness);
    }
}
