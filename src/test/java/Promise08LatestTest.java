/** Promise 8, latest(): its five questions, before any read(), and which read() is the latest. */
public final class Promise08LatestTest implements Answers {
    public static void main(String[] args) {
        Due.run(Promise08LatestTest.class);
    }

    private static void oneRead(SourcePositions x) {
        States.onePart(x, 3);
        x.read(0);
    }

    static void beforeAny(Due d) {
        SourcePositions x = new SourcePositions();
        d.dueLatest(x, -1, -1, -1, -1, -1);
        States.onePart(x, 3);
        d.dueLatest(x, -1, -1, -1, -1, -1);
    }

    static void outsideAtBothEnds(Due d) {
        SourcePositions x = new SourcePositions();
        oneRead(x);
        d.due("latest(-1)", x.latest(-1), OUTSIDE);
        d.due("latest(0)", x.latest(0), 0);
        d.due("latest(4)", x.latest(4), 0);
        d.due("latest(5)", x.latest(5), OUTSIDE);
        for (int far : FAR) {
            d.due("latest(" + far + ")", x.latest(far), OUTSIDE);
        }
    }

    static void outsideComesAheadOfBeforeAny(Due d) {
        SourcePositions x = new SourcePositions();
        d.due("latest(-1)", x.latest(-1), OUTSIDE);
        d.due("latest(5)", x.latest(5), OUTSIDE);
        for (int far : FAR) {
            d.due("latest(" + far + ")", x.latest(far), OUTSIDE);
        }
    }

    static void noneBeforeAnyDoesNotCount(Due d) {
        SourcePositions x = new SourcePositions();
        x.read(0);
        d.dueLatest(x, -1, -1, -1, -1, -1);
        x.part(1);
        x.give(0, 0);
        x.read(0);
        d.dueLatest(x, -1, -1, -1, -1, -1);
    }

    static void noneAndRefusedDoNotCount(Due d) {
        SourcePositions x = new SourcePositions();
        States.onePart(x, 2);
        States.reads(x, 0, 2);
        d.dueReads(x, 0, NONE);
        d.dueReads(x, 1, UNKNOWN);
        d.dueReads(x, -1, UNKNOWN);
        d.dueLatest(x, 0, 1, 1, 2, 0);
    }

    static void lostCounts(Due d) {
        SourcePositions x = new SourcePositions();
        oneRead(x);
        x.lose(1, false);
        d.dueReads(x, 0, LOST);
        d.dueLatest(x, 0, 1, 1, 2, 0);
    }

    static void asideCounts(Due d) {
        SourcePositions x = new SourcePositions();
        oneRead(x);
        x.read(0);
        x.read(0);
        x.row(0, 9, 77, false);
        d.dueReads(x, 0, ASIDE);
        d.dueLatest(x, 0, 3, 77, 4, 0);
    }

    static void doubleCounts(Due d) {
        SourcePositions x = new SourcePositions();
        States.onePart(x, 1);
        x.row(0, 0, 66, true);
        d.dueReads(x, 0, 0, DOUBLE);
        d.dueLatest(x, 0, 1, 66, 2, 0);
    }

    static void twiceCounts(Due d) {
        SourcePositions x = new SourcePositions();
        States.onePart(x, 1);
        x.lose(1, true);
        d.dueReads(x, 0, 0);
        d.dueLatest(x, 0, 0, 0, 1, 0);
        d.dueReads(x, 0, DOUBLE);
        d.dueLatest(x, 0, 0, 0, 2, 0);
    }

    static void theFirstDeliveryIsNumberOne(Due d) {
        SourcePositions x = new SourcePositions();
        oneRead(x);
        d.due("latest(3)", x.latest(3), 1);
    }

    static void eachAtItsGreatest(Due d) {
        SourcePositions x = new SourcePositions();
        for (int part = 0; part < 12; part++) {
            x.part(9);
        }
        States.rows(x, 11, 39, 0, 0);
        x.row(11, 255, 100000, true);
        x.give(11, 0);
        States.reads(x, 0, 40);
        d.dueLatest(x, 11, 39, 100000, 40, 0);
    }

    static void creditIsThatBehindTheRead(Due d) {
        SourcePositions x = new SourcePositions();
        for (int part = 0; part < 12; part++) {
            x.part(9);
            x.row(part, part, 0, true);
        }
        x.scale(1);
        d.dueReads(x, 0, 0);
        d.due("latest(4)", x.latest(4), -99);
        d.dueReads(x, 0, 1);
        // The second of them had 9 from the first READING; eleven are READY by now.
        d.due("latest(4)", x.latest(4), 18 - 99);
    }

    static void otherCallsLeaveIt(Due d) {
        SourcePositions x = new SourcePositions();
        x.part(4);
        x.part(4);
        States.rows(x, 0, 3, 0, 50);
        States.rows(x, 1, 3, 10, 60);
        x.scale(1);
        x.mark();
        d.dueReads(x, 0, 0);
        int[] want = {0, 0, 50, 1, -4};
        d.dueLatest(x, want);
        x.give(0, NONE);
        x.split(0, 1);
        x.end(1);
        x.lose(1, false);
        x.part(1);
        d.dueLatest(x, want);
        x.restore(0);
        d.dueLatest(x, want);
        x.start(100);
        d.dueLatest(x, want);
        x.scale(6);
        d.dueLatest(x, want);
    }

    static void theQuestionChangesNothing(Due d) {
        Twins.refused(d, "latest(-1)", States::busy, x -> x.latest(-1), OUTSIDE);
        Twins.refused(d, "latest(5)", States::busy, x -> x.latest(5), OUTSIDE);
        Twins.refused(d, "latest(5) before any", States::fresh, x -> x.latest(5), OUTSIDE);
        Twins.refused(d, "latest(0)", States::fresh, x -> x.latest(0), -1);
        Twins.refused(d, "latest(3)", States::busy, x -> x.latest(3), 9);
        for (int far : FAR) {
            Twins.refused(d, "latest(" + far + ")", States::busy, x -> x.latest(far), OUTSIDE);
        }
    }
}
