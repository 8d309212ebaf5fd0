/** A call that is refused: it throws what is documented, and it changes nothing. */
final class Refusal {
    interface Maker {
        WordwardenArchive make();
    }

    interface Ask {
        Object of(WordwardenArchive a);
    }

    private final Maker maker;
    private final String[] before = new String[Picture.PARTS];

    /** The maker makes equal archives, on which the calls are tried. */
    Refusal(Maker maker) {
        this.maker = maker;
        for (int part = 0; part < before.length; part++) {
            before[part] = Picture.part(part, maker.make());
        }
    }

    void due(String what, Class<? extends RuntimeException> kind, Ask ask) {
        for (int part = 0; part < before.length; part++) {
            WordwardenArchive a = maker.make();
            Check.dueThrow(what, kind, () -> ask.of(a));
            Check.due(what + " changes nothing, part " + part, Picture.part(part, a), before[part]);
        }
    }

    interface AskWith {
        Object of(WordwardenArchive a, int number);
    }

    void dueEach(String what, Class<? extends RuntimeException> kind, int[] numbers, AskWith ask) {
        for (int number : numbers) {
            due(what + " " + number, kind, a -> ask.of(a, number));
        }
    }
}
