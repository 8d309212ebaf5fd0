/** Each bound that the document names for lost ones, parents and scores, promises 24 to 29, in a test of its own. */
public final class StemmaBoundsTest extends ArchiveTests {
    private static final Refusal BUSY = new Refusal(ArchiveTests::busy);
    private static final Refusal FULL = new Refusal(ArchiveTests::full);
    private static final Refusal ALL_STRUCK_OUT = new Refusal(ArchiveTests::allStruckOut);

    /** In a busy archive: what lies between the witnesses and the lost ones, and next to these. */
    private static final int[] BETWEEN = row(3, 4, 5, 8, 9);

    public static void main(String[] args) {
        Check.runPromises(StemmaBoundsTest.class);
    }

    /** One column with six readings, and so many lost ones. */
    private static WordwardenArchive sixReadings(int losts) {
        WordwardenArchive a = make(row(1), row(2), row(3), row(4), row(5), row());
        for (int lost = 0; lost < losts; lost++) {
            a.addLost();
        }
        return a;
    }

    /** Each one is the child of the next one, but for the last one. */
    private static WordwardenArchive lineOfNine() {
        WordwardenArchive a = sixReadings(3);
        for (int one = 0; one < 8; one++) {
            a.setParents(one, one + 1, -1);
        }
        return a;
    }

    static void promise24ThreeFrom6On() {
        WordwardenArchive a = new WordwardenArchive();
        for (int lost = 6; lost < 9; lost++) {
            int next = lost;
            Check.dueThrow("not there yet " + next, INDEX, () -> a.setParents(next, -1, -1));
            Check.due("number", a.addLost(), next);
            Check.due("without parents", a.setParents(next, -1, -1), 0);
        }
    }

    static void promise24NoFourth() {
        FULL.due("beside six witnesses", STATE, WordwardenArchive::addLost);
        Refusal.Maker three = () -> {
            WordwardenArchive a = new WordwardenArchive();
            a.addLost();
            a.addLost();
            a.addLost();
            return a;
        };
        new Refusal(three).due("without witnesses", STATE, WordwardenArchive::addLost);
        WordwardenArchive a = three.make();
        for (int time = 0; time < 3; time++) {
            Check.dueThrow("again", STATE, a::addLost);
        }
        Check.dueThrow("no lost one 9", INDEX, () -> a.setParents(9, -1, -1));
    }

    static void promise25NoChildOutside() {
        BUSY.dueEach("child", INDEX, outside(0, 8), (a, child) -> a.setParents(child, -1, -1));
        BUSY.dueEach("child between", INDEX, BETWEEN, (a, child) -> a.setParents(child, 0, -1));
        FULL.dueEach("child of nine", INDEX, outside(0, 8), (a, child) -> a.setParents(child, 0, 1));
    }

    static void promise25NoFirstParentOutside() {
        BUSY.dueEach("first", INDEX, outside(-1, 8), (a, first) -> a.setParents(0, first, -1));
        BUSY.dueEach("first between", INDEX, BETWEEN, (a, first) -> a.setParents(0, first, -1));
        FULL.dueEach("first of nine", INDEX, outside(-1, 8), (a, first) -> a.setParents(0, first, 6));
    }

    static void promise25NoSecondParentOutside() {
        BUSY.dueEach("second", INDEX, outside(-1, 8), (a, second) -> a.setParents(0, 7, second));
        BUSY.dueEach("second between", INDEX, BETWEEN, (a, second) -> a.setParents(0, 7, second));
        FULL.dueEach("second of nine", INDEX, outside(-1, 8), (a, second) -> a.setParents(0, 6, second));
    }

    static void promise25FirstAndLastOnes() {
        WordwardenArchive a = sixReadings(3);
        Check.due("the first witness by the last ones", a.setParents(0, 8, 5), 0);
        Check.due("the last witness by the last lost ones", a.setParents(5, 8, 7), 0);
        Check.due("the first lost one by the last one", a.setParents(6, 8, -1), 0);
        Check.due("the last lost one by the second witness", a.setParents(8, 1, -1), 0);
        Check.due("another one by the first ones", a.setParents(4, 6, 0), 0);
    }

    static void promise25ThereOnceItIsAdded() {
        WordwardenArchive a = make(row(1));
        Check.dueThrow("no witness 1", INDEX, () -> a.setParents(0, 1, -1));
        a.addWitness();
        Check.due("witness 1", a.setParents(0, 1, -1), 0);
        Check.dueThrow("no lost one 6", INDEX, () -> a.setParents(1, 6, -1));
        a.addLost();
        Check.due("lost one 6", a.setParents(1, 6, -1), 0);
        Check.dueThrow("no lost one 7", INDEX, () -> a.setParents(6, 7, -1));
    }

    static void promise25NoneOneAndTwoParents() {
        WordwardenArchive a = sixReadings(1);
        Check.due("none", a.setParents(0, -1, -1), 0);
        Check.due("none still", a.setParents(0, 6, -1), 0);
        Check.due("one", a.setParents(0, 6, 1), 1);
        Check.due("two", a.setParents(0, 1, -1), 2);
        Check.due("one again", a.setParents(0, -1, -1), 1);
        Check.due("none again", a.setParents(0, 1, 2), 0);
        Check.due("of another one", a.setParents(1, -1, -1), 0);
    }

    static void promise25NoSecondOneAlone() {
        BUSY.dueEach("second alone", ARGUMENT, row(0, 1, 2, 6, 7), (a, second) -> a.setParents(1, -1, second));
        FULL.dueEach("second alone of nine", ARGUMENT, row(5, 8), (a, second) -> a.setParents(0, -1, second));
    }

    static void promise25NotBothTheSame() {
        BUSY.dueEach("both", ARGUMENT, row(0, 2, 6, 7), (a, both) -> a.setParents(1, both, both));
        FULL.dueEach("both of nine", ARGUMENT, row(5, 8), (a, both) -> a.setParents(0, both, both));
    }

    static void promise25FirstThrowsFirst() {
        BUSY.due("no child, both the same", INDEX, a -> a.setParents(3, 0, 0));
        BUSY.due("no child, second alone", INDEX, a -> a.setParents(-1, -1, 0));
        BUSY.due("no parents, both the same", INDEX, a -> a.setParents(0, 9, 9));
        BUSY.due("no second, alone", INDEX, a -> a.setParents(0, -1, 8));
        BUSY.due("no second, a ring by the first", INDEX, a -> a.setParents(0, 1, 8));
        BUSY.due("no first, a ring by the second", INDEX, a -> a.setParents(0, -2, 1));
        BUSY.due("both the same, a ring", ARGUMENT, a -> a.setParents(0, 1, 1));
        BUSY.due("both itself", ARGUMENT, a -> a.setParents(0, 0, 0));
        BUSY.due("second alone, a ring", ARGUMENT, a -> a.setParents(0, -1, 2));
        BUSY.due("second alone, itself", ARGUMENT, a -> a.setParents(7, -1, 7));
    }

    static void promise25NoneIsItsOwnParent() {
        BUSY.dueEach("first", RING, row(0, 1, 2, 6, 7), (a, one) -> a.setParents(one, one, -1));
        FULL.dueEach("second", RING, row(1, 2, 5, 8), (a, one) -> a.setParents(one, 0, one));
        FULL.dueEach("first of two", RING, row(1, 2, 5, 8), (a, one) -> a.setParents(one, one, 0));
    }

    static void promise25NoRing() {
        BUSY.due("of two", RING, a -> a.setParents(0, 1, -1));
        BUSY.due("of two by the second one", RING, a -> a.setParents(0, 6, 1));
        BUSY.due("of three", RING, a -> a.setParents(0, 2, -1));
        BUSY.due("of lost ones", RING, a -> a.setParents(7, 6, -1));
        BUSY.due("of a lost one and a witness", RING, a -> a.setParents(7, 0, -1));
        FULL.due("by second parents", RING, a -> a.setParents(8, 5, 1));
        FULL.due("by first parents", RING, a -> a.setParents(7, 4, -1));
    }

    static void promise25NoRingOfNine() {
        Refusal nine = new Refusal(StemmaBoundsTest::lineOfNine);
        nine.dueEach("by the last one", RING, row(0, 1, 2, 3, 4, 5, 6, 7, 8), (a, one) -> a.setParents(8, one, -1));
        nine.due("by the second parent", RING, a -> a.setParents(7, 8, 0));
        WordwardenArchive a = lineOfNine();
        Check.due("the line turned round", a.setParents(0, -1, -1), 1);
        Check.due("its end", a.setParents(8, 0, -1), 0);
        Check.dueThrow("still no ring", RING, () -> a.setParents(0, 1, -1));
    }

    static void promise25TwoWaysAreNoRing() {
        WordwardenArchive a = lineOfNine();
        Check.due("parent and grandparent", a.setParents(0, 1, 2), 1);
        Check.due("both ends", a.setParents(1, 2, 8), 1);
        Check.due("again", a.setParents(0, 8, 1), 2);
    }

    static void promise25NewParentsTakeThePlaceOfTheOld() {
        WordwardenArchive a = lineOfNine();
        a.setParents(4, 8, -1);
        Check.due("no ring through the old one", a.setParents(5, 0, -1), 1);
        Check.dueThrow("a ring through the new one", RING, () -> a.setParents(0, 5, -1));
        Check.dueThrow("a ring from below", RING, () -> a.setParents(8, 4, -1));
    }

    static void promise26NoColumnOutside() {
        BUSY.dueEach("column", INDEX, outside(0, 3), WordwardenArchive::score);
        FULL.dueEach("column of 16", INDEX, outside(0, 15), WordwardenArchive::score);
        ALL_STRUCK_OUT.due("no columns", INDEX, a -> a.score(0));
    }

    static void promise26WithoutParentsIs0() {
        Check.due("six apart", sixReadings(0).score(0), 0);
        Check.due("and three lost ones", sixReadings(3).score(0), 0);
        Check.due("one witness", make(row(1)).score(0), 0);
    }

    static void promise26FromNoneToFive() {
        WordwardenArchive a = sixReadings(0);
        for (int child = 1; child < 6; child++) {
            a.setParents(child, child - 1, -1);
            Check.due("all apart", a.score(0), child);
        }
        WordwardenArchive b = make(row(1), row(1), row(1), row(1), row(1), row(1));
        for (int child = 1; child < 6; child++) {
            b.setParents(child, child - 1, -1);
        }
        Check.due("all alike", b.score(0), 0);
    }

    static void promise26EitherParentExplains() {
        WordwardenArchive a = make(row(1), row(2), row(1), row(2), row(3));
        a.setParents(2, 0, 1);
        Check.due("the first one does", a.score(0), 0);
        a.setParents(3, 0, 1);
        Check.due("the second one does", a.score(0), 0);
        a.setParents(4, 0, 1);
        Check.due("neither does", a.score(0), 1);
        a.setParents(2, 1, -1);
        Check.due("the one that does is gone", a.score(0), 2);
    }

    static void promise26NoWordIsAReadingToo() {
        WordwardenArchive a = struckOut();
        a.setParents(0, 1, -1);
        Check.due("none is not the parent's", a.score(0), 1);
        a.correct(1, 0, 0);
        a.correct(1, 1, 9);
        a.use(1, true);
        a.addWitness();
        a.setParents(2, 0, -1);
        Check.due("none is that of one without words", a.score(0), 1);
    }

    static void promise26ThreeLostOnesTakeWhatIsLeast() {
        WordwardenArchive a = sixReadings(3);
        for (int witness = 0; witness < 6; witness++) {
            a.setParents(witness, 6 + witness / 2, -1);
        }
        Check.due("each explains one of two", a.score(0), 3);
        a.setParents(7, 6, -1);
        Check.due("the second one is a child", a.score(0), 4);
        a.setParents(8, 7, -1);
        Check.due("the third one is a child", a.score(0), 5);
        Check.due("of several ways the lowest", thoughts(a, 0, 3), "0 0 0");
    }

    static void promise27NoColumnOutside() {
        BUSY.dueEach("column", INDEX, outside(0, 3), WordwardenArchive::scoreAnew);
        FULL.dueEach("column of 16", INDEX, outside(0, 15), WordwardenArchive::scoreAnew);
        ALL_STRUCK_OUT.due("no columns", INDEX, a -> a.scoreAnew(0));
    }

    static void promise27TheSameAsTheScore() {
        WordwardenArchive a = sixReadings(0);
        Check.due("no lost ones, no parents", a.scoreAnew(0), 0);
        a.setParents(1, 0, -1);
        Check.due("no lost ones", a.scoreAnew(0), 1);
        WordwardenArchive b = sixReadings(3);
        Check.due("no parents", b.scoreAnew(0), 0);
        for (int witness = 0; witness < 6; witness++) {
            b.setParents(witness, 6 + witness / 2, -1);
        }
        Check.due("three of six", b.scoreAnew(0), 3);
        Check.due("a line of nine", lineOfNine().scoreAnew(0), lineOfNine().score(0));
        for (int column = 0; column < 16; column++) {
            Check.due("column " + column, full().scoreAnew(column), full().score(column));
        }
    }

    static void promise27TriesTheLastReadingForTheLastLostOne() {
        WordwardenArchive a = sixReadings(3);
        a.setParents(5, 8, -1);
        Check.due("the last one explains it", a.scoreAnew(0), 0);
        a.setParents(8, 7, -1);
        a.setParents(7, 6, -1);
        Check.due("all three have it", a.scoreAnew(0), 0);
        a.setParents(6, 4, -1);
        Check.due("one of them has not", a.scoreAnew(0), 1);
    }

    static void promise28NoColumnOutside() {
        BUSY.dueEach("column", INDEX, outside(0, 3), (a, column) -> a.thought(column, 6));
        FULL.dueEach("column of 16", INDEX, outside(0, 15), (a, column) -> a.thought(column, 8));
        ALL_STRUCK_OUT.due("no columns", INDEX, a -> a.thought(0, 6));
    }

    static void promise28NoLostOneOutside() {
        BUSY.dueEach("one of two", INDEX, outside(6, 7), (a, lost) -> a.thought(0, lost));
        FULL.dueEach("one of three", INDEX, outside(6, 8), (a, lost) -> a.thought(0, lost));
        FULL.dueEach("a witness", INDEX, row(0, 1, 2, 3, 4, 5), (a, witness) -> a.thought(0, witness));
        new Refusal(() -> make(row(1))).dueEach("none", INDEX, row(6, 7, 8), (a, lost) -> a.thought(0, lost));
        BUSY.due("neither", INDEX, a -> a.thought(4, 8));
    }

    static void promise28FromTheFirstReadingToTheLast() {
        for (int witness = 0; witness < 6; witness++) {
            for (int lost = 6; lost < 9; lost++) {
                WordwardenArchive a = sixReadings(3);
                a.setParents(witness, lost, -1);
                Check.due("reading of " + witness + " by " + lost, a.thought(0, lost), witness);
            }
        }
    }

    static void promise28TheLowestIfItDoesNotMatter() {
        Check.due("no parents", thoughts(sixReadings(3), 0, 3), "0 0 0");
        WordwardenArchive a = sixReadings(3);
        a.setParents(8, 5, -1);
        Check.due("what explains the last one", thoughts(a, 0, 3), "0 0 5");
        a.setParents(8, -1, -1);
        Check.due("forgotten with the parent", thoughts(a, 0, 3), "0 0 0");
    }

    static void promise28TheFirstLostOneIsTheLowest() {
        WordwardenArchive a = make(row(1), row(2), row(1));
        a.addLost();
        a.addLost();
        a.setParents(1, 6, 7);
        a.setParents(2, 6, 7);
        Check.due("0 1 ahead of 1 0", thoughts(a, 0, 2), "0 1");
    }

    static void promise28ThenTheSecondOneIsTheLowest() {
        WordwardenArchive a = make(row(1), row(2), row(1));
        a.addLost();
        a.addLost();
        a.addLost();
        a.setParents(1, 7, 8);
        a.setParents(2, 7, 8);
        Check.due("0 0 1 ahead of 0 1 0", thoughts(a, 0, 3), "0 0 1");
        WordwardenArchive b = make(row(1), row(2), row(3));
        b.addLost();
        b.addLost();
        b.addLost();
        b.setParents(0, 6, 7);
        b.setParents(1, 6, 8);
        b.setParents(2, 7, 8);
        Check.due("the lowest for the first one forces the others", thoughts(b, 0, 3), "0 2 1");
    }

    static void promise28LeastScoreAheadOfTheLowest() {
        WordwardenArchive a = make(row(1), row(2), row(2));
        a.addLost();
        a.setParents(0, 6, -1);
        a.setParents(1, 6, -1);
        Check.due("one against one", a.thought(0, 6), 0);
        a.setParents(2, 6, -1);
        Check.due("one against two", a.thought(0, 6), 1);
    }

    static void promise29NoColumnOutside() {
        BUSY.dueEach("column", INDEX, outside(0, 3), WordwardenArchive::isCoherent);
        FULL.dueEach("column of 16", INDEX, outside(0, 15), WordwardenArchive::isCoherent);
        ALL_STRUCK_OUT.due("no columns", INDEX, a -> a.isCoherent(0));
    }

    static void promise29OneOfEachReading() {
        Check.due("one witness", make(row(1)).isCoherent(0), true);
        Check.due("six apart", sixReadings(0).isCoherent(0), true);
    }

    static void promise29TwoWithoutParents() {
        Check.due("alike", make(row(1), row(1)).isCoherent(0), false);
        Check.due("apart", make(row(1), row(2)).isCoherent(0), true);
        Check.due("none and none", make(row(), row(1), row()).isCoherent(0), false);
    }

    static void promise29EachReadingCounts() {
        WordwardenArchive a = make(row(1), row(1), row(2), row(2), row(), row());
        a.setParents(1, 0, -1);
        a.setParents(3, 2, -1);
        Check.due("the last reading does not", a.isCoherent(0), false);
        a.setParents(5, 4, -1);
        Check.due("all do", a.isCoherent(0), true);
        a.setParents(1, 2, -1);
        Check.due("the first reading does not", a.isCoherent(0), false);
    }

    static void promise29BySecondParentsToo() {
        WordwardenArchive a = make(row(1), row(2), row(1));
        a.setParents(2, 1, -1);
        Check.due("not by another reading", a.isCoherent(0), false);
        a.setParents(2, 1, 0);
        Check.due("by the second parent", a.isCoherent(0), true);
    }

    static void promise29LostOnesAreAmongThem() {
        WordwardenArchive a = make(row(1));
        a.addLost();
        Check.due("a lost one apart", a.isCoherent(0), false);
        a.setParents(6, 0, -1);
        Check.due("a lost one as a child", a.isCoherent(0), true);
        a.setParents(6, -1, -1);
        a.setParents(0, 6, -1);
        Check.due("a lost one as a parent", a.isCoherent(0), true);
        a.addLost();
        Check.due("another lost one apart", a.isCoherent(0), false);
        a.setParents(7, 6, -1);
        Check.due("in a line", a.isCoherent(0), true);
    }

    static void promise29LostOnesHaveWhatTheyAreThoughtToHave() {
        WordwardenArchive a = make(row(1), row(2), row(2));
        a.addLost();
        a.setParents(1, 6, -1);
        a.setParents(2, 6, -1);
        Check.due("it joins the two", a.isCoherent(0), true);
        a.setParents(0, 6, -1);
        Check.due("still", a.isCoherent(0), true);
        a.correct(2, 0, 3);
        a.use(2, true);
        Check.due("it is thought to have the first reading", a.thought(0, 6), 0);
        Check.due("one of each reading beside it", a.isCoherent(0), true);
    }

    static void promise29NotWhatWasTriedLast() {
        WordwardenArchive a = sixReadings(1);
        a.setParents(0, 6, -1);
        Check.due("its score asked by trying all", a.scoreAnew(0), 0);
        Check.due("the lost one has the first reading", a.isCoherent(0), true);
        a.setParents(0, -1, -1);
        a.setParents(5, 6, -1);
        Check.due("the lost one has the last reading", a.isCoherent(0), true);
        a.setParents(5, -1, -1);
        Check.due("the lost one has the first reading, apart", a.isCoherent(0), false);
    }

    static void promise29AllNineInALine() {
        WordwardenArchive a = make(row(1), row(1), row(1), row(1), row(1), row(1));
        for (int lost = 0; lost < 3; lost++) {
            a.addLost();
        }
        for (int one : row(7, 0, 4, 2, 6, 1, 5, 3)) {
            Check.due("a link is missing ahead of " + one, a.isCoherent(0), false);
            a.setParents(one, one + 1, -1);
        }
        Check.due("all hang together", a.isCoherent(0), true);
    }
}
