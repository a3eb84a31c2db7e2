/** Promise 17, aside(): its numbers from the first to the hundredth, and its two questions. */
public final class Promise17AsideTest implements Answers {
    public static void main(String[] args) {
        Due.run(Promise17AsideTest.class);
    }

    /** One PART, its ROWS at the places 1 and 3 not SOUND, all of them read. */
    private static void twoAside(SourcePositions x) {
        x.part(1);
        for (int i = 0; i < 4; i++) {
            x.row(0, i, i, i % 2 == 0);
        }
        x.give(0, 0);
        States.reads(x, 0, 4);
    }

    static void nothingIsAside(Due d) {
        SourcePositions x = new SourcePositions();
        States.onePart(x, 2);
        States.reads(x, 0, 2);
        d.due("aside(0, 0)", x.aside(0, 0), UNKNOWN);
        d.due("aside(0, 1)", x.aside(0, 1), UNKNOWN);
    }

    static void theOneBeforeTheFirst(Due d) {
        SourcePositions x = new SourcePositions();
        twoAside(x);
        d.due("aside(-1, 0)", x.aside(-1, 0), UNKNOWN);
        d.due("aside(0, 0)", x.aside(0, 0), 0);
        d.due("aside(0, 1)", x.aside(0, 1), 1);
    }

    static void theOneBehindTheLast(Due d) {
        SourcePositions x = new SourcePositions();
        twoAside(x);
        d.due("aside(1, 0)", x.aside(1, 0), 0);
        d.due("aside(1, 1)", x.aside(1, 1), 3);
        d.due("aside(2, 0)", x.aside(2, 0), UNKNOWN);
        d.due("aside(99, 0)", x.aside(99, 0), UNKNOWN);
        d.due("aside(100, 0)", x.aside(100, 0), UNKNOWN);
    }

    static void theQuestionsAtBothEnds(Due d) {
        SourcePositions x = new SourcePositions();
        twoAside(x);
        d.due("aside(0, -1)", x.aside(0, -1), OUTSIDE);
        d.due("aside(0, 2)", x.aside(0, 2), OUTSIDE);
        d.due("aside(1, -1)", x.aside(1, -1), OUTSIDE);
        d.due("aside(1, 2)", x.aside(1, 2), OUTSIDE);
    }

    static void numbersFarOff(Due d) {
        SourcePositions x = new SourcePositions();
        twoAside(x);
        for (int far : FAR) {
            d.due("aside(" + far + ", 0)", x.aside(far, 0), UNKNOWN);
            d.due("aside(0, " + far + ")", x.aside(0, far), OUTSIDE);
        }
    }

    static void unknownComesAheadOfOutside(Due d) {
        SourcePositions x = new SourcePositions();
        d.due("aside(0, 2), nothing aside", x.aside(0, 2), UNKNOWN);
        twoAside(x);
        d.due("aside(2, 2)", x.aside(2, 2), UNKNOWN);
        d.due("aside(-1, -1)", x.aside(-1, -1), UNKNOWN);
    }

    static void theHundredthIsTheLast(Due d) {
        SourcePositions x = new SourcePositions();
        for (int part = 0; part < 3; part++) {
            x.part(1);
            for (int i = 0; i < 35; i++) {
                x.row(part, 0, 0, false);
            }
        }
        x.scale(1);
        States.reads(x, 0, 105);
        for (int i = 0; i < 100; i++) {
            d.due("aside(" + i + ", 0)", x.aside(i, 0), i % 3);
            d.due("aside(" + i + ", 1)", x.aside(i, 1), i / 3);
        }
        d.due("aside(100, 0)", x.aside(100, 0), UNKNOWN);
        d.due("aside(100, 1)", x.aside(100, 1), UNKNOWN);
    }

    static void theLastPartAndPlace(Due d) {
        SourcePositions x = new SourcePositions();
        for (int part = 0; part < 12; part++) {
            x.part(1);
        }
        States.rows(x, 11, 39, 0, 0);
        x.row(11, 99, 0, false);
        x.give(11, 0);
        States.reads(x, 0, 40);
        d.due("aside(0, 0)", x.aside(0, 0), 11);
        d.due("aside(0, 1)", x.aside(0, 1), 39);
    }

    static void thePlaceOfARowThatWasSplitOff(Due d) {
        SourcePositions x = new SourcePositions();
        States.onePart(x, 2);
        x.row(0, 9, 9, false);
        x.split(0, 1);
        x.give(1, 0);
        States.reads(x, 0, 3);
        d.due("aside(0, 0)", x.aside(0, 0), 1);
        d.due("aside(0, 1), its place as it is now", x.aside(0, 1), 1);
    }

    static void theSameRowAgainIsNotedAgain(Due d) {
        SourcePositions x = new SourcePositions();
        States.onePart(x, 0);
        x.row(0, 9, 9, false);
        x.mark();
        d.dueReads(x, 0, ASIDE);
        x.restore(0);
        d.due("count(5)", x.count(5), 0);
        d.dueReads(x, 0, ASIDE);
        d.due("count(5)", x.count(5), 1);
        d.due("aside(0, 1)", x.aside(0, 1), 0);
        x.row(0, 9, 9, false);
        d.dueReads(x, 0, ASIDE);
        d.due("aside(1, 1)", x.aside(1, 1), 1);
    }

    static void theQuestionChangesNothing(Due d) {
        Twins.refused(d, "aside(0, 0)", States::fresh, x -> x.aside(0, 0), UNKNOWN);
        Twins.refused(d, "aside(-1, 0)", States::busy, x -> x.aside(-1, 0), UNKNOWN);
        Twins.refused(d, "aside(1, 0)", States::busy, x -> x.aside(1, 0), UNKNOWN);
        Twins.refused(d, "aside(0, -1)", States::busy, x -> x.aside(0, -1), OUTSIDE);
        Twins.refused(d, "aside(0, 2)", States::busy, x -> x.aside(0, 2), OUTSIDE);
        Twins.refused(d, "aside(0, 0)", States::busy, x -> x.aside(0, 0), 4);
        for (int far : FAR) {
            Twins.refused(d, "aside(" + far + ", 0)", States::busy, x -> x.aside(far, 0), UNKNOWN);
            Twins.refused(d, "aside(0, " + far + ")", States::busy, x -> x.aside(0, far), OUTSIDE);
        }
    }
}
