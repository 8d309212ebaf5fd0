/** All that can be asked of an archive without changing it, as one text. */
final class Picture {
    private Picture() {
    }

    static String of(WordwardenArchive a) {
        StringBuilder text = new StringBuilder();
        for (int witness = 0; witness < 6; witness++) {
            ofWitness(a, witness, text);
        }
        for (int column = 0; column <= a.columns(); column++) {
            ofColumn(a, column, text);
        }
        text.append(a.editionLength()).append(' ').append(a.total()).append(' ').append(a.isSound());
        return text.toString();
    }

    private static void ofWitness(WordwardenArchive a, int witness, StringBuilder text) {
        text.append("witness ").append(Check.outcome(() -> a.length(witness)));
        for (int index = 0; index < 8; index++) {
            int place = index;
            text.append(' ').append(Check.outcome(() -> a.wordAt(witness, place)));
            text.append(' ').append(Check.outcome(() -> a.readBack(witness, place)));
        }
        text.append('\n');
    }

    private static void ofColumn(WordwardenArchive a, int column, StringBuilder text) {
        text.append("column ").append(Check.outcome(() -> a.readings(column)));
        for (int witness = 0; witness < 6; witness++) {
            int one = witness;
            text.append(' ').append(Check.outcome(() -> a.at(column, one)));
            text.append(' ').append(Check.outcome(() -> a.readingOf(column, one)));
            text.append(' ').append(Check.outcome(() -> a.thought(column, 6 + one)));
        }
        text.append(' ').append(Check.outcome(() -> a.lineOf(column)));
        text.append(' ').append(Check.outcome(() -> a.score(column)));
        text.append(' ').append(Check.outcome(() -> a.isCoherent(column)));
        text.append(' ').append(Check.outcome(() -> a.noteColumn(column)));
        text.append(' ').append(Check.outcome(() -> a.noteSize(column)));
        text.append('\n');
    }
}
