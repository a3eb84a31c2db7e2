/** Promise 14, told(): which PARTS and questions there are, and each answer at its ends. */
public final class Promise14ToldTest implements Answers {
    public static void main(String[] args) {
        Due.run(Promise14ToldTest.class);
    }

    static void thePartBeforeTheFirst(Due d) {
        SourcePositions x = new SourcePositions();
        x.part(1);
        d.due("told(-1, 0)", x.told(-1, 0), UNKNOWN);
        d.due("told(0, 0)", x.told(0, 0), 0);
    }

    static void thePartBehindTheLast(Due d) {
        SourcePositions x = new SourcePositions();
        d.due("told(0, 0)", x.told(0, 0), UNKNOWN);
        for (int part = 0; part < 12; part++) {
            x.part(1);
            d.due("told(" + part + ", 3)", x.told(part, 3), 1);
            d.due("told(" + (part + 1) + ", 3)", x.told(part + 1, 3), UNKNOWN);
        }
    }

    static void theQuestionsAtBothEnds(Due d) {
        SourcePositions x = new SourcePositions();
        x.part(1);
        d.due("told(0, -1)", x.told(0, -1), TOLD_OUTSIDE);
        d.due("told(0, 0)", x.told(0, 0), 0);
        d.due("told(0, 9)", x.told(0, 9), NONE);
        d.due("told(0, 10)", x.told(0, 10), TOLD_OUTSIDE);
    }

    static void numbersFarOff(Due d) {
        SourcePositions x = new SourcePositions();
        x.part(1);
        for (int far : FAR) {
            d.due("told(" + far + ", 0)", x.told(far, 0), UNKNOWN);
            d.due("told(0, " + far + ")", x.told(0, far), TOLD_OUTSIDE);
        }
    }

    static void unknownComesAheadOfOutside(Due d) {
        SourcePositions x = new SourcePositions();
        d.due("told(0, 10) without parts", x.told(0, 10), UNKNOWN);
        x.part(1);
        d.due("told(1, 10)", x.told(1, 10), UNKNOWN);
        d.due("told(-1, -1)", x.told(-1, -1), UNKNOWN);
    }

    static void positionAtBothEnds(Due d) {
        SourcePositions x = new SourcePositions();
        States.onePart(x, 40);
        d.due("told(0, 0)", x.told(0, 0), 0);
        States.reads(x, 0, 39);
        d.due("told(0, 0)", x.told(0, 0), 39);
        d.due("told(0, 7)", x.told(0, 7), 1);
        x.read(0);
        d.due("told(0, 0)", x.told(0, 0), 40);
        d.due("told(0, 7)", x.told(0, 7), 0);
    }

    static void waterAtBothEnds(Due d) {
        SourcePositions x = new SourcePositions();
        x.part(1);
        x.row(0, 1, 0, true);
        x.row(0, 2, 100000, true);
        x.give(0, 0);
        d.due("told(0, 1), nothing passed", x.told(0, 1), -1);
        x.read(0);
        d.due("told(0, 1)", x.told(0, 1), 0);
        x.read(0);
        d.due("told(0, 1)", x.told(0, 1), 100000);
    }

    static void creditMayLookLikeARefusal(Due d) {
        SourcePositions x = new SourcePositions();
        for (int part = 0; part < 4; part++) {
            x.part(4);
            x.row(part, part, part, true);
        }
        x.scale(1);
        x.read(0);
        d.due("told(0, 2)", x.told(0, 2), -12);
        d.due("told(3, 2)", x.told(3, 2), 4);
        SourcePositions y = new SourcePositions();
        for (int part = 0; part < 12; part++) {
            y.part(1);
            y.row(part, part, part, true);
        }
        y.scale(1);
        y.read(0);
        d.due("told(0, 2)", y.told(0, 2), -11);
        d.due("told(11, 2)", y.told(11, 2), 1);
    }

    static void shareAtBothEnds(Due d) {
        SourcePositions x = new SourcePositions();
        x.part(1);
        x.part(9);
        d.due("told(0, 3)", x.told(0, 3), 1);
        d.due("told(1, 3)", x.told(1, 3), 9);
    }

    static void theReaderAtBothEnds(Due d) {
        SourcePositions x = new SourcePositions();
        x.part(1);
        d.due("told(0, 4)", x.told(0, 4), NONE);
        x.scale(6);
        d.due("told(0, 4)", x.told(0, 4), 0);
        x.give(0, 5);
        d.due("told(0, 4)", x.told(0, 4), 5);
    }

    static void rowsAtBothEnds(Due d) {
        SourcePositions x = new SourcePositions();
        x.part(1);
        d.due("told(0, 5)", x.told(0, 5), 0);
        States.rows(x, 0, 40, 0, 0);
        d.due("told(0, 5)", x.told(0, 5), 40);
        x.give(0, 0);
        x.read(0);
        d.due("told(0, 5), one passed", x.told(0, 5), 40);
    }

    static void endedReadyAndDone(Due d) {
        SourcePositions x = new SourcePositions();
        States.onePart(x, 0);
        int[][] want = {{0, 0, 0}, {0, 1, 0}, {1, 1, 0}, {1, 0, 1}};
        for (int step = 0; step < want.length; step++) {
            for (int what = 6; what <= 8; what++) {
                d.due("told(0, " + what + ") at step " + step, x.told(0, what), want[step][what - 6]);
            }
            if (step == 0) {
                x.row(0, 5, 5, true);
            } else if (step == 1) {
                x.end(0);
            } else {
                x.read(0);
            }
        }
    }

    static void endedWithoutRowsIsDone(Due d) {
        SourcePositions x = new SourcePositions();
        x.part(1);
        x.end(0);
        d.due("told(0, 6)", x.told(0, 6), 1);
        d.due("told(0, 7)", x.told(0, 7), 0);
        d.due("told(0, 8)", x.told(0, 8), 1);
    }

    static void thePartFromWhichItWasSplit(Due d) {
        SourcePositions x = new SourcePositions();
        States.onePart(x, 12);
        for (int part = 0; part < 11; part++) {
            x.split(part, 1);
        }
        d.due("told(0, 9)", x.told(0, 9), NONE);
        for (int part = 1; part < 12; part++) {
            d.due("told(" + part + ", 9)", x.told(part, 9), part - 1);
        }
    }

    static void theQuestionChangesNothing(Due d) {
        Twins.refused(d, "told(0, 0)", States::fresh, x -> x.told(0, 0), UNKNOWN);
        Twins.refused(d, "told(-1, 0)", States::busy, x -> x.told(-1, 0), UNKNOWN);
        Twins.refused(d, "told(6, 0)", States::busy, x -> x.told(6, 0), UNKNOWN);
        Twins.refused(d, "told(0, -1)", States::busy, x -> x.told(0, -1), TOLD_OUTSIDE);
        Twins.refused(d, "told(0, 10)", States::busy, x -> x.told(0, 10), TOLD_OUTSIDE);
        Twins.refused(d, "told(5, 9)", States::busy, x -> x.told(5, 9), 1);
        for (int far : FAR) {
            Twins.refused(d, "told(" + far + ", 0)", States::busy, x -> x.told(far, 0), UNKNOWN);
            Twins.refused(d, "told(0, " + far + ")", States::busy, x -> x.told(0, far), TOLD_OUTSIDE);
        }
    }
}
