/** Promise 5, split(): where a PART may be SPLIT, what its two PARTS have then, and which refusal comes first. */
public final class Promise05SplitTest implements Answers {
    public static void main(String[] args) {
        Due.run(Promise05SplitTest.class);
    }

    /** One PART of five ROWS, two of which were passed. */
    private static void fiveRowsTwoPassed(SourcePositions x) {
        States.onePart(x, 5);
        States.reads(x, 0, 2);
    }

    /** The same, and no room for a PART more. */
    private static void fiveRowsAndFull(SourcePositions x) {
        fiveRowsTwoPassed(x);
        for (int i = 0; i < 11; i++) {
            x.part(1);
        }
    }

    static void thePartBeforeTheFirst(Due d) {
        SourcePositions x = new SourcePositions();
        States.onePart(x, 3);
        d.due("split(-1, 1)", x.split(-1, 1), UNKNOWN);
        d.due("split(0, 1)", x.split(0, 1), 1);
    }

    static void thePartBehindTheLast(Due d) {
        SourcePositions x = new SourcePositions();
        States.onePart(x, 3);
        d.due("split(1, 1)", x.split(1, 1), UNKNOWN);
        d.due("split(11, 1)", x.split(11, 1), UNKNOWN);
        x.split(0, 1);
        d.due("split(1, 1), there now", x.split(1, 1), 2);
    }

    static void thePartBehindTheTwelfth(Due d) {
        SourcePositions x = new SourcePositions();
        States.full(x);
        d.due("split(12, 1)", x.split(12, 1), UNKNOWN);
    }

    static void thePlaceBehindTheLastRow(Due d) {
        SourcePositions x = new SourcePositions();
        States.onePart(x, 3);
        d.due("split(0, 3)", x.split(0, 3), UNKNOWN);
        d.due("split(0, 39)", x.split(0, 39), UNKNOWN);
        d.due("split(0, 2)", x.split(0, 2), 1);
        d.due("told(0, 5)", x.told(0, 5), 2);
        d.due("told(1, 5)", x.told(1, 5), 1);
    }

    static void thePlaceBehindTheFortiethRow(Due d) {
        SourcePositions x = new SourcePositions();
        States.onePart(x, 40);
        d.due("split(0, 40)", x.split(0, 40), UNKNOWN);
        d.due("split(0, 39)", x.split(0, 39), 1);
        d.due("told(0, 5)", x.told(0, 5), 39);
        d.due("number(1, 0)", x.number(1, 0), 39);
    }

    static void thePlaceBeforeTheFirstRow(Due d) {
        SourcePositions x = new SourcePositions();
        States.onePart(x, 3);
        d.due("split(0, -1)", x.split(0, -1), UNKNOWN);
    }

    static void placeNoughtIsNotSplit(Due d) {
        SourcePositions x = new SourcePositions();
        States.onePart(x, 3);
        d.due("split(0, 0)", x.split(0, 0), STATE);
        d.due("split(0, 1)", x.split(0, 1), 1);
        d.due("split(0, 0), one row left", x.split(0, 0), STATE);
    }

    static void aPartWithoutRows(Due d) {
        SourcePositions x = new SourcePositions();
        x.part(1);
        d.due("split(0, 0)", x.split(0, 0), UNKNOWN);
        d.due("split(0, 1)", x.split(0, 1), UNKNOWN);
        x.end(0);
        d.due("split(0, 0), ended", x.split(0, 0), UNKNOWN);
    }

    static void thePositionIsTheFirstPlace(Due d) {
        SourcePositions x = new SourcePositions();
        fiveRowsTwoPassed(x);
        d.due("split(0, 0)", x.split(0, 0), STATE);
        d.due("split(0, 1)", x.split(0, 1), STATE);
        d.due("split(0, 2)", x.split(0, 2), 1);
        d.dueTold(x, 0, 2, 1, 0, 1, 0, 2, 1, 0, 1, NONE);
        d.dueTold(x, 1, 0, -1, 0, 1, NONE, 3, 0, 1, 0, 0);
    }

    static void aPlaceBehindThePosition(Due d) {
        SourcePositions x = new SourcePositions();
        fiveRowsTwoPassed(x);
        d.due("split(0, 3)", x.split(0, 3), 1);
        d.dueTold(x, 0, 2, 1, 0, 1, 0, 3, 1, 1, 0, NONE);
        d.dueReads(x, 0, 2, NONE);
    }

    static void whenAllRowsWerePassed(Due d) {
        SourcePositions x = new SourcePositions();
        States.onePart(x, 3);
        States.reads(x, 0, 3);
        d.due("split(0, 2)", x.split(0, 2), STATE);
        d.due("split(0, 3), at the position", x.split(0, 3), UNKNOWN);
        x.end(0);
        d.due("split(0, 2), done", x.split(0, 2), STATE);
    }

    static void numbersFarOff(Due d) {
        SourcePositions x = new SourcePositions();
        States.onePart(x, 3);
        for (int far : FAR) {
            d.due("split(" + far + ", 1)", x.split(far, 1), UNKNOWN);
            d.due("split(0, " + far + ")", x.split(0, far), UNKNOWN);
        }
        d.due("count(0)", x.count(0), 1);
    }

    static void theTwelfthIsTheLast(Due d) {
        SourcePositions x = new SourcePositions();
        States.onePart(x, 13);
        for (int part = 0; part < 11; part++) {
            d.due("split(" + part + ", 1)", x.split(part, 1), part + 1);
        }
        d.due("split(11, 1)", x.split(11, 1), FULL);
        d.due("told(11, 5)", x.told(11, 5), 2);
        d.due("told(11, 6)", x.told(11, 6), 0);
        d.due("number(11, 1)", x.number(11, 1), 12);
    }

    static void unknownComesAheadOfStateAndFull(Due d) {
        SourcePositions x = new SourcePositions();
        fiveRowsAndFull(x);
        d.due("split(12, 0)", x.split(12, 0), UNKNOWN);
        d.due("split(-1, 2)", x.split(-1, 2), UNKNOWN);
        d.due("split(0, 5)", x.split(0, 5), UNKNOWN);
        d.due("split(0, -1)", x.split(0, -1), UNKNOWN);
        d.due("split(1, 0), without rows", x.split(1, 0), UNKNOWN);
    }

    static void stateComesAheadOfFull(Due d) {
        SourcePositions x = new SourcePositions();
        fiveRowsAndFull(x);
        d.due("split(0, 0)", x.split(0, 0), STATE);
        d.due("split(0, 1)", x.split(0, 1), STATE);
        d.due("split(0, 2)", x.split(0, 2), FULL);
    }

    static void theNewPartIsEndedIfThatOneIs(Due d) {
        SourcePositions x = new SourcePositions();
        States.onePart(x, 3);
        x.end(0);
        d.due("split(0, 1), ended", x.split(0, 1), 1);
        d.due("told(1, 6)", x.told(1, 6), 1);
        d.due("told(1, 8)", x.told(1, 8), 0);
        d.due("told(0, 6)", x.told(0, 6), 1);
    }

    static void theNewPartIsNotEndedIfThatOneIsNot(Due d) {
        SourcePositions x = new SourcePositions();
        States.onePart(x, 3);
        x.split(0, 1);
        d.due("told(1, 6)", x.told(1, 6), 0);
        d.due("told(0, 6)", x.told(0, 6), 1);
        d.due("row(1, 9, 9, true)", x.row(1, 9, 9, true), 3);
    }

    static void theNewPartHasItsShareAndNoReader(Due d) {
        SourcePositions x = new SourcePositions();
        x.part(9);
        States.rows(x, 0, 2, 0, 0);
        x.scale(6);
        x.give(0, 5);
        x.split(0, 1);
        d.due("told(1, 3)", x.told(1, 3), 9);
        d.due("told(1, 4)", x.told(1, 4), NONE);
        d.due("told(0, 4)", x.told(0, 4), 5);
    }

    static void theRowsKeepNumbersTimesAndSoundness(Due d) {
        SourcePositions x = new SourcePositions();
        x.part(1);
        x.row(0, 0, 0, true);
        x.row(0, 255, 100000, true);
        x.row(0, 7, 0, false);
        x.row(0, 0, 5, true);
        x.split(0, 1);
        d.due("number(1, 0)", x.number(1, 0), 255);
        d.due("number(1, 1)", x.number(1, 1), 7);
        d.due("number(1, 2)", x.number(1, 2), 0);
        d.dueThrow("number(1, 3)", () -> x.number(1, 3), NULL);
        d.dueThrow("number(0, 1)", () -> x.number(0, 1), NULL);
        x.give(1, 0);
        d.dueReads(x, 0, 255);
        d.dueLatest(x, 1, 0, 100000, 1, 0);
        d.dueReads(x, 0, ASIDE);
        d.dueLatest(x, 1, 1, 0, 2, 0);
        d.due("aside(0, 1)", x.aside(0, 1), 1);
        d.dueReads(x, 0, 0);
        d.dueLatest(x, 1, 2, 5, 3, 0);
    }

    static void thePartItselfKeepsItsCreditAndWater(Due d) {
        SourcePositions x = new SourcePositions();
        x.part(2);
        x.part(3);
        States.rows(x, 0, 4, 0, 50);
        States.rows(x, 1, 4, 10, 50);
        x.scale(1);
        // Credits behind each: 2 -2, -1 1.
        d.dueReads(x, 0, 10, 0);
        x.split(0, 2);
        d.dueTold(x, 0, 1, 50, -1, 2, 0, 2, 1, 1, 0, NONE);
        d.dueTold(x, 2, 0, -1, 0, 2, NONE, 2, 0, 1, 0, 0);
    }

    static void aPartSplitOffIsSplitAgain(Due d) {
        SourcePositions x = new SourcePositions();
        States.onePart(x, 4);
        x.split(0, 1);
        d.due("split(1, 0)", x.split(1, 0), STATE);
        d.due("split(1, 3)", x.split(1, 3), UNKNOWN);
        d.due("split(1, 2)", x.split(1, 2), 2);
        d.due("told(2, 9)", x.told(2, 9), 1);
        d.due("told(1, 9)", x.told(1, 9), 0);
        d.due("number(2, 0)", x.number(2, 0), 3);
    }

    static void thePositionOutOfAMarkMayLieBehindTheRowsLeft(Due d) {
        SourcePositions x = new SourcePositions();
        States.onePart(x, 5);
        States.reads(x, 0, 4);
        x.mark();
        x.start(0);
        x.split(0, 2);
        x.restore(0);
        d.due("told(0, 0)", x.told(0, 0), 4);
        d.due("split(0, 1)", x.split(0, 1), STATE);
        d.due("split(0, 2)", x.split(0, 2), UNKNOWN);
        d.due("split(0, 4)", x.split(0, 4), UNKNOWN);
    }

    static void aRefusedCallChangesNothing(Due d) {
        Twins.refused(d, "split(0, 0)", States::fresh, x -> x.split(0, 0), UNKNOWN);
        Twins.refused(d, "split(-1, 1)", States::busy, x -> x.split(-1, 1), UNKNOWN);
        Twins.refused(d, "split(6, 1)", States::busy, x -> x.split(6, 1), UNKNOWN);
        Twins.refused(d, "split(0, 6)", States::busy, x -> x.split(0, 6), UNKNOWN);
        Twins.refused(d, "split(0, -1)", States::busy, x -> x.split(0, -1), UNKNOWN);
        Twins.refused(d, "split(3, 0)", States::busy, x -> x.split(3, 0), UNKNOWN);
        Twins.refused(d, "split(0, 0)", States::busy, x -> x.split(0, 0), STATE);
        Twins.refused(d, "split(2, 0)", States::busy, x -> x.split(2, 0), STATE);
        Twins.refused(d, "split(1, 2)", States::busy, x -> x.split(1, 2), STATE);
        Twins.refused(d, "split(4, 2)", States::busy, x -> x.split(4, 2), STATE);
        Twins.refused(d, "split(0, 2)", Promise05SplitTest::fiveRowsAndFull, x -> x.split(0, 2), FULL);
        Twins.refused(d, "split(0, 1)", Promise05SplitTest::fiveRowsAndFull, x -> x.split(0, 1), STATE);
        Twins.refused(d, "split(7, 2)", States::full, x -> x.split(7, 2), FULL);
        Twins.refused(d, "split(2, 1)", States::busyWithTwelveParts, x -> x.split(2, 1), FULL);
        Twins.refused(d, "split(2, 0)", States::busyWithTwelveParts, x -> x.split(2, 0), STATE);
        Twins.refused(d, "split(6, 0)", States::busyWithTwelveParts, x -> x.split(6, 0), UNKNOWN);
        for (int far : FAR) {
            Twins.refused(d, "split(" + far + ", 1)", States::busy, x -> x.split(far, 1), UNKNOWN);
            Twins.refused(d, "split(0, " + far + ")", States::busy, x -> x.split(0, far), UNKNOWN);
        }
    }
}
