/** Promise 18, rate(): which PARTS there are, a PART that none reads, whose SHARES count, and what is cut. */
public final class Promise18RateTest implements Answers {
    public static void main(String[] args) {
        Due.run(Promise18RateTest.class);
    }

    /** PARTS of these SHARES, each with one ROW, all read by TASK 0. */
    private static SourcePositions readyParts(int... shares) {
        SourcePositions x = new SourcePositions();
        for (int share : shares) {
            int part = x.part(share);
            x.row(part, part, 0, true);
        }
        x.scale(1);
        return x;
    }

    static void thePartBeforeTheFirst(Due d) {
        SourcePositions x = readyParts(1);
        d.due("rate(-1)", x.rate(-1), UNKNOWN);
        d.due("rate(0)", x.rate(0), 1000);
    }

    static void thePartBehindTheLast(Due d) {
        SourcePositions x = new SourcePositions();
        d.due("rate(0)", x.rate(0), UNKNOWN);
        for (int part = 0; part < 12; part++) {
            x.part(1);
            x.give(part, 0);
            d.due("rate(" + part + ")", x.rate(part), 1000);
            d.due("rate(" + (part + 1) + ")", x.rate(part + 1), UNKNOWN);
        }
    }

    static void partsFarOff(Due d) {
        SourcePositions x = readyParts(1);
        for (int far : FAR) {
            d.due("rate(" + far + ")", x.rate(far), UNKNOWN);
        }
    }

    static void noneReadsIt(Due d) {
        SourcePositions x = new SourcePositions();
        x.part(1);
        d.dueThrow("rate(0), at first", () -> x.rate(0), NULL);
        x.row(0, 0, 0, true);
        d.dueThrow("rate(0), ready", () -> x.rate(0), NULL);
        x.give(0, 0);
        d.due("rate(0)", x.rate(0), 1000);
        x.give(0, NONE);
        d.dueThrow("rate(0), given to none", () -> x.rate(0), NULL);
    }

    static void noneReadsADonePartBehindScale(Due d) {
        SourcePositions x = readyParts(1);
        x.end(0);
        x.read(0);
        d.due("rate(0), done, but read", x.rate(0), 1000);
        x.scale(1);
        d.dueThrow("rate(0)", () -> x.rate(0), NULL);
    }

    static void aloneItIsAll(Due d) {
        for (int share = 1; share <= 9; share++) {
            d.due("rate(0) of " + share, readyParts(share).rate(0), 1000);
        }
    }

    static void itIsCut(Due d) {
        SourcePositions x = readyParts(1, 2);
        d.due("rate(0)", x.rate(0), 333);
        d.due("rate(1)", x.rate(1), 666);
        x = readyParts(9, 8, 6);
        d.due("rate(0)", x.rate(0), 391);
        d.due("rate(1)", x.rate(1), 347);
        d.due("rate(2)", x.rate(2), 260);
    }

    static void theLeastAndTheGreatestAmongTwelve(Due d) {
        SourcePositions x = readyParts(1, 9, 9, 9, 9, 9, 9, 9, 9, 9, 9, 9);
        d.due("rate(0)", x.rate(0), 10);
        d.due("rate(11)", x.rate(11), 90);
        x = readyParts(1, 1, 1, 1, 1, 1, 1, 1, 1, 1, 1, 9);
        d.due("rate(11)", x.rate(11), 450);
        d.due("rate(0)", x.rate(0), 50);
    }

    static void itsOwnShareCountsThoughItIsNotReady(Due d) {
        SourcePositions x = readyParts(3, 2);
        x.part(5);
        x.give(2, 0);
        d.due("rate(2), not ready", x.rate(2), 500);
        d.due("rate(0), without that one", x.rate(0), 600);
    }

    static void aloneAndNotReady(Due d) {
        SourcePositions x = new SourcePositions();
        x.part(4);
        x.give(0, 0);
        d.due("rate(0)", x.rate(0), 1000);
    }

    static void othersCountIfTheyAreReady(Due d) {
        SourcePositions x = readyParts(3, 1);
        d.due("rate(0)", x.rate(0), 750);
        d.dueReads(x, 0, 0);
        d.due("rate(1), the other is not ready", x.rate(1), 1000);
        d.due("rate(0), not ready itself", x.rate(0), 750);
        d.dueReads(x, 0, 1);
        d.due("rate(0)", x.rate(0), 1000);
    }

    static void anEndedPartCountsAsLongAsItIsReady(Due d) {
        SourcePositions x = readyParts(1, 1);
        x.end(0);
        d.due("rate(1)", x.rate(1), 500);
        x.read(0);
        d.due("rate(1)", x.rate(1), 1000);
    }

    static void thoseOfOtherTasksAndOfNoneDoNotCount(Due d) {
        SourcePositions x = readyParts(1, 2, 3, 4);
        x.scale(2);
        d.due("rate(0)", x.rate(0), 250);
        d.due("rate(1)", x.rate(1), 333);
        x.give(2, NONE);
        d.due("rate(0)", x.rate(0), 1000);
        x.give(2, 1);
        d.due("rate(2)", x.rate(2), 333);
    }

    static void aRefusedCallChangesNothing(Due d) {
        Twins.refused(d, "rate(0)", States::fresh, x -> x.rate(0), UNKNOWN);
        Twins.refused(d, "rate(-1)", States::busy, x -> x.rate(-1), UNKNOWN);
        Twins.refused(d, "rate(6)", States::busy, x -> x.rate(6), UNKNOWN);
        Twins.refused(d, "rate(3)", States::busy, x -> x.rate(3), NULL);
        Twins.refused(d, "rate(4), done", States::busy, x -> x.rate(4), 1000);
        for (int far : FAR) {
            Twins.refused(d, "rate(" + far + ")", States::busy, x -> x.rate(far), UNKNOWN);
        }
    }
}
