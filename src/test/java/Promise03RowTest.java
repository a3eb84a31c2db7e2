/** Promise 3, row(): the ends of PART, NUMBER and TIME, forty ROWS at most, and no ROW of an ENDED PART. */
public final class Promise03RowTest implements Answers {
    public static void main(String[] args) {
        Due.run(Promise03RowTest.class);
    }

    private static void onePart(SourcePositions x) {
        x.part(1);
    }

    private static void fullPart(SourcePositions x) {
        x.part(1);
        States.rows(x, 0, 40, 100, 1000);
    }

    private static void fullAndEndedPart(SourcePositions x) {
        fullPart(x);
        x.end(0);
    }

    static void thePartBeforeTheFirst(Due d) {
        SourcePositions x = new SourcePositions();
        onePart(x);
        d.due("row(-1, 0, 0, true)", x.row(-1, 0, 0, true), UNKNOWN);
        d.due("row(0, 0, 0, true)", x.row(0, 0, 0, true), 1);
    }

    static void thePartBehindTheLast(Due d) {
        SourcePositions x = new SourcePositions();
        onePart(x);
        d.due("row(1, 0, 0, true)", x.row(1, 0, 0, true), UNKNOWN);
        d.due("row(11, 0, 0, true)", x.row(11, 0, 0, true), UNKNOWN);
        x.part(1);
        d.due("row(1, 0, 0, true)", x.row(1, 0, 0, true), 1);
        d.due("row(2, 0, 0, true)", x.row(2, 0, 0, true), UNKNOWN);
    }

    static void thePartBehindTheTwelfth(Due d) {
        SourcePositions x = new SourcePositions();
        States.full(x);
        d.due("row(11, 0, 0, true)", x.row(11, 0, 0, true), 4);
        d.due("row(12, 0, 0, true)", x.row(12, 0, 0, true), UNKNOWN);
    }

    static void numbersAtBothEnds(Due d) {
        SourcePositions x = new SourcePositions();
        onePart(x);
        d.due("row(0, -1, 0, true)", x.row(0, -1, 0, true), OUTSIDE);
        d.due("row(0, 256, 0, true)", x.row(0, 256, 0, true), OUTSIDE);
        d.due("row(0, 0, 0, true)", x.row(0, 0, 0, true), 1);
        d.due("row(0, 255, 0, true)", x.row(0, 255, 0, true), 2);
        d.due("number(0, 0)", x.number(0, 0), 0);
        d.due("number(0, 1)", x.number(0, 1), 255);
    }

    static void timesAtBothEnds(Due d) {
        SourcePositions x = new SourcePositions();
        onePart(x);
        d.due("row(0, 0, -1, true)", x.row(0, 0, -1, true), OUTSIDE);
        d.due("row(0, 0, 100001, true)", x.row(0, 0, 100001, true), OUTSIDE);
        d.due("row(0, 0, 0, true)", x.row(0, 0, 0, true), 1);
        d.due("row(0, 1, 100000, true)", x.row(0, 1, 100000, true), 2);
        x.give(0, 0);
        d.dueReads(x, 0, 0);
        d.due("latest(2)", x.latest(2), 0);
        d.dueReads(x, 0, 1);
        d.due("latest(2)", x.latest(2), 100000);
    }

    static void numbersFarOff(Due d) {
        SourcePositions x = new SourcePositions();
        onePart(x);
        for (int far : FAR) {
            d.due("row(" + far + ", 0, 0, true)", x.row(far, 0, 0, true), UNKNOWN);
            d.due("row(0, " + far + ", 0, true)", x.row(0, far, 0, true), OUTSIDE);
            d.due("row(0, 0, " + far + ", true)", x.row(0, 0, far, true), OUTSIDE);
        }
        d.due("told(0, 5)", x.told(0, 5), 0);
    }

    static void bothAreOutside(Due d) {
        SourcePositions x = new SourcePositions();
        onePart(x);
        d.due("row(0, -1, -1, true)", x.row(0, -1, -1, true), OUTSIDE);
        d.due("row(0, 256, 100001, false)", x.row(0, 256, 100001, false), OUTSIDE);
    }

    static void theFortiethIsTheLast(Due d) {
        SourcePositions x = new SourcePositions();
        onePart(x);
        for (int i = 1; i <= 40; i++) {
            d.due("row no. " + i, x.row(0, i, i, true), i);
        }
        d.due("row no. 41", x.row(0, 41, 41, true), FULL);
        d.due("row no. 41, not sound", x.row(0, 41, 41, false), FULL);
        d.due("told(0, 5)", x.told(0, 5), 40);
        d.due("number(0, 39)", x.number(0, 39), 40);
    }

    static void aFullPartLeavesRoomInAnother(Due d) {
        SourcePositions x = new SourcePositions();
        fullPart(x);
        x.part(1);
        d.due("row(1, 0, 0, true)", x.row(1, 0, 0, true), 1);
        d.due("row(0, 0, 0, true)", x.row(0, 0, 0, true), FULL);
    }

    static void rowsThatWerePassedTakeRoom(Due d) {
        SourcePositions x = new SourcePositions();
        fullPart(x);
        x.give(0, 0);
        for (int i = 0; i < 40; i++) {
            d.due("read no. " + (i + 1), x.read(0), 100 + i);
        }
        d.due("told(0, 0)", x.told(0, 0), 40);
        d.due("row(0, 0, 0, true)", x.row(0, 0, 0, true), FULL);
        d.dueReads(x, 0, NONE);
    }

    static void noRowOfAnEndedPart(Due d) {
        SourcePositions x = new SourcePositions();
        onePart(x);
        x.row(0, 1, 1, true);
        x.end(0);
        d.due("row(0, 0, 0, true)", x.row(0, 0, 0, true), STATE);
        d.due("row(0, 255, 100000, false)", x.row(0, 255, 100000, false), STATE);
        d.due("told(0, 5)", x.told(0, 5), 1);
    }

    static void noRowOfAPartEndedBySplit(Due d) {
        SourcePositions x = new SourcePositions();
        onePart(x);
        States.rows(x, 0, 3, 0, 0);
        x.split(0, 2);
        d.due("row(0, 9, 9, true)", x.row(0, 9, 9, true), STATE);
        d.due("row(1, 9, 9, true)", x.row(1, 9, 9, true), 2);
    }

    static void aPartMadeBySplitTakesFortyToo(Due d) {
        SourcePositions x = new SourcePositions();
        fullPart(x);
        x.split(0, 1);
        d.due("row no. 40", x.row(1, 7, 7, true), 40);
        d.due("row no. 41", x.row(1, 8, 8, true), FULL);
        d.due("number(1, 39)", x.number(1, 39), 7);
    }

    static void unknownComesFirst(Due d) {
        SourcePositions x = new SourcePositions();
        fullAndEndedPart(x);
        d.due("row(-1, -1, -1, true)", x.row(-1, -1, -1, true), UNKNOWN);
        d.due("row(1, 256, 0, true)", x.row(1, 256, 0, true), UNKNOWN);
        d.due("row(1, 0, 100001, true)", x.row(1, 0, 100001, true), UNKNOWN);
    }

    static void outsideComesAheadOfState(Due d) {
        SourcePositions x = new SourcePositions();
        onePart(x);
        x.end(0);
        d.due("row(0, 256, 0, true)", x.row(0, 256, 0, true), OUTSIDE);
        d.due("row(0, -1, 0, true)", x.row(0, -1, 0, true), OUTSIDE);
        d.due("row(0, 0, 100001, true)", x.row(0, 0, 100001, true), OUTSIDE);
        d.due("row(0, 0, -1, true)", x.row(0, 0, -1, true), OUTSIDE);
    }

    static void outsideComesAheadOfFull(Due d) {
        SourcePositions x = new SourcePositions();
        fullPart(x);
        d.due("row(0, 256, 0, true)", x.row(0, 256, 0, true), OUTSIDE);
        d.due("row(0, 0, -1, true)", x.row(0, 0, -1, true), OUTSIDE);
    }

    static void stateComesAheadOfFull(Due d) {
        SourcePositions x = new SourcePositions();
        fullAndEndedPart(x);
        d.due("row(0, 0, 0, true)", x.row(0, 0, 0, true), STATE);
    }

    static void timesComeInAnyOrderAndNumbersAgain(Due d) {
        SourcePositions x = new SourcePositions();
        onePart(x);
        d.due("row(0, 5, 100000, true)", x.row(0, 5, 100000, true), 1);
        d.due("row(0, 5, 0, true)", x.row(0, 5, 0, true), 2);
        d.due("row(0, 5, 100000, false)", x.row(0, 5, 100000, false), 3);
        d.due("number(0, 2)", x.number(0, 2), 5);
    }

    static void aRefusedCallChangesNothing(Due d) {
        Twins.refused(d, "row(-1, 0, 0, true)", States::busy, x -> x.row(-1, 0, 0, true), UNKNOWN);
        Twins.refused(d, "row(6, 0, 0, true)", States::busy, x -> x.row(6, 0, 0, true), UNKNOWN);
        Twins.refused(d, "row(12, 0, 0, true)", States::full, x -> x.row(12, 0, 0, true), UNKNOWN);
        Twins.refused(d, "row(0, -1, 0, true)", States::busy, x -> x.row(0, -1, 0, true), OUTSIDE);
        Twins.refused(d, "row(0, 256, 0, true)", States::busy, x -> x.row(0, 256, 0, true), OUTSIDE);
        Twins.refused(d, "row(0, 0, -1, true)", States::busy, x -> x.row(0, 0, -1, true), OUTSIDE);
        Twins.refused(d, "row(0, 0, 100001, true)", States::busy, x -> x.row(0, 0, 100001, true), OUTSIDE);
        Twins.refused(d, "row(1, 0, 0, true)", States::busy, x -> x.row(1, 0, 0, true), STATE);
        Twins.refused(d, "row(4, 0, 0, true)", States::busy, x -> x.row(4, 0, 0, true), STATE);
        Twins.refused(d, "row(0, 0, 0, false)", Promise03RowTest::fullPart, x -> x.row(0, 0, 0, false), FULL);
        Twins.refused(d, "row(0, 0, 0, false)", Promise03RowTest::fullAndEndedPart, x -> x.row(0, 0, 0, false), STATE);
        Twins.refused(d, "row(3, 0, 0, true)", States::busyWithAFullPart, x -> x.row(3, 0, 0, true), FULL);
        Twins.refused(d, "row(3, 0, -1, true)", States::busyWithAFullPart, x -> x.row(3, 0, -1, true), OUTSIDE);
        for (int far : FAR) {
            Twins.refused(d, "row(" + far + ", 0, 0, true)", States::busy, x -> x.row(far, 0, 0, true), UNKNOWN);
            Twins.refused(d, "row(0, " + far + ", 0, true)", States::busy, x -> x.row(0, far, 0, true), OUTSIDE);
            Twins.refused(d, "row(0, 0, " + far + ", true)", States::busy, x -> x.row(0, 0, far, true), OUTSIDE);
        }
    }
}
