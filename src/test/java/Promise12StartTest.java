/** Promise 12, start(): the ends of TIME, the first ROW not before it, and what is as at first then. */
public final class Promise12StartTest implements Answers {
    public static void main(String[] args) {
        Due.run(Promise12StartTest.class);
    }

    static void noughtIsTheLeastTime(Due d) {
        SourcePositions x = new SourcePositions();
        x.part(1);
        x.row(0, 1, 0, true);
        d.due("start(-1)", x.start(-1), OUTSIDE);
        d.due("start(0)", x.start(0), 1);
        d.due("told(0, 0)", x.told(0, 0), 0);
    }

    static void aHundredThousandIsTheGreatestTime(Due d) {
        SourcePositions x = new SourcePositions();
        x.part(1);
        x.row(0, 1, 99999, true);
        x.row(0, 2, 100000, true);
        d.due("start(100001)", x.start(100001), OUTSIDE);
        d.due("start(100000)", x.start(100000), 1);
        d.due("told(0, 0)", x.told(0, 0), 1);
    }

    static void timesFarOff(Due d) {
        SourcePositions x = new SourcePositions();
        States.onePart(x, 2);
        x.read(0);
        for (int far : FAR) {
            d.due("start(" + far + ")", x.start(far), OUTSIDE);
        }
        d.due("told(0, 0)", x.told(0, 0), 1);
    }

    static void withoutParts(Due d) {
        SourcePositions x = new SourcePositions();
        d.due("start(0)", x.start(0), 0);
        d.due("start(100000)", x.start(100000), 0);
        d.due("start(100001)", x.start(100001), OUTSIDE);
    }

    static void partsWithoutRows(Due d) {
        SourcePositions x = new SourcePositions();
        x.part(1);
        x.part(1);
        x.end(1);
        d.due("start(0)", x.start(0), 0);
        d.due("told(0, 0)", x.told(0, 0), 0);
        d.due("told(1, 0)", x.told(1, 0), 0);
    }

    static void aTimeThatARowHas(Due d) {
        SourcePositions x = new SourcePositions();
        x.part(1);
        int[] times = {10, 20, 20, 30};
        for (int i = 0; i < times.length; i++) {
            x.row(0, i, times[i], true);
        }
        int[] asked = {0, 9, 10, 11, 19, 20, 21, 30, 31};
        int[] places = {0, 0, 0, 1, 1, 1, 3, 3, 4};
        for (int i = 0; i < asked.length; i++) {
            d.due("start(" + asked[i] + ")", x.start(asked[i]), places[i] < 4 ? 1 : 0);
            d.due("told(0, 0)", x.told(0, 0), places[i]);
        }
    }

    static void theFirstByPlaceNotByTime(Due d) {
        SourcePositions x = new SourcePositions();
        x.part(1);
        int[] times = {5, 90, 40, 10, 60};
        for (int i = 0; i < times.length; i++) {
            x.row(0, i, times[i], true);
        }
        d.due("start(40)", x.start(40), 1);
        d.due("told(0, 0)", x.told(0, 0), 1);
        d.due("start(6)", x.start(6), 1);
        d.due("told(0, 0)", x.told(0, 0), 1);
        d.due("start(91)", x.start(91), 0);
        d.due("told(0, 0)", x.told(0, 0), 5);
    }

    static void behindTheLastOfAFullPart(Due d) {
        SourcePositions x = new SourcePositions();
        States.onePart(x, 40);
        d.due("start(39)", x.start(39), 1);
        d.due("told(0, 0)", x.told(0, 0), 39);
        d.due("start(40)", x.start(40), 0);
        d.dueTold(x, 0, 40, -1, 0, 1, 0, 40, 0, 0, 0, NONE);
        d.dueReads(x, 0, NONE);
    }

    static void behindTheLastIsReadyWithTheNextRow(Due d) {
        SourcePositions x = new SourcePositions();
        States.onePart(x, 2);
        d.due("start(50)", x.start(50), 0);
        d.due("row(0, 9, 3, true)", x.row(0, 9, 3, true), 3);
        d.due("told(0, 7)", x.told(0, 7), 1);
        d.dueReads(x, 0, 9, NONE);
    }

    static void howManyAreReady(Due d) {
        SourcePositions x = new SourcePositions();
        for (int part = 0; part < 12; part++) {
            x.part(1);
            x.row(part, part, 10 * part, true);
        }
        d.due("start(0)", x.start(0), 12);
        d.due("start(1)", x.start(1), 11);
        d.due("start(110)", x.start(110), 1);
        d.due("start(111)", x.start(111), 0);
        d.due("start(0) again", x.start(0), 12);
    }

    static void readersAreAsTheyWere(Due d) {
        SourcePositions x = new SourcePositions();
        x.part(1);
        x.part(1);
        x.scale(2);
        x.give(0, NONE);
        x.start(0);
        d.due("told(0, 4)", x.told(0, 4), NONE);
        d.due("told(1, 4)", x.told(1, 4), 1);
        d.due("count(1)", x.count(1), 2);
    }

    static void aDonePartIsReadyAgain(Due d) {
        SourcePositions x = new SourcePositions();
        States.onePart(x, 2);
        x.end(0);
        States.reads(x, 0, 2);
        d.due("told(0, 8)", x.told(0, 8), 1);
        d.due("start(1)", x.start(1), 1);
        d.dueTold(x, 0, 1, -1, 0, 1, 0, 2, 1, 1, 0, NONE);
        d.due("start(2)", x.start(2), 0);
        d.due("told(0, 8)", x.told(0, 8), 1);
    }

    static void waterAndCreditAreAsAtFirst(Due d) {
        SourcePositions x = new SourcePositions();
        x.part(2);
        x.part(3);
        States.rows(x, 0, 2, 0, 50);
        States.rows(x, 1, 2, 10, 60);
        x.scale(1);
        d.dueReads(x, 0, 10, 0);
        d.due("told(0, 2)", x.told(0, 2), -1);
        d.due("start(51)", x.start(51), 2);
        d.dueTold(x, 0, 1, -1, 0, 2, 0, 2, 0, 1, 0, NONE);
        d.dueTold(x, 1, 0, -1, 0, 3, 0, 2, 0, 1, 0, NONE);
        d.due("water()", x.water(), -1);
    }

    static void nothingIsGivenOrAside(Due d) {
        SourcePositions x = new SourcePositions();
        x.part(1);
        x.row(0, 0, 0, true);
        x.row(0, 255, 0, true);
        x.row(0, 7, 0, false);
        x.give(0, 0);
        States.reads(x, 0, 3);
        x.start(100000);
        d.due("count(4)", x.count(4), 0);
        d.due("count(5)", x.count(5), 0);
        d.due("given(0)", x.given(0), 0);
        d.due("given(255)", x.given(255), 0);
        d.due("aside(0, 0)", x.aside(0, 0), UNKNOWN);
    }

    static void whatIsAsideHasRoomAgain(Due d) {
        SourcePositions x = new SourcePositions();
        for (int part = 0; part < 3; part++) {
            x.part(1);
            for (int i = 0; i < 34; i++) {
                x.row(part, 0, 0, false);
            }
        }
        x.scale(1);
        States.reads(x, 0, 102);
        d.due("count(5)", x.count(5), 100);
        d.due("start(0)", x.start(0), 3);
        d.dueReads(x, 0, ASIDE);
        d.due("count(5)", x.count(5), 1);
        States.reads(x, 0, 101);
        d.due("count(5)", x.count(5), 100);
        d.due("aside(100, 0)", x.aside(100, 0), UNKNOWN);
    }

    static void deliveriesAndMarksStay(Due d) {
        SourcePositions x = new SourcePositions();
        States.onePart(x, 3);
        x.row(0, 0, 0, true);
        x.read(0);
        x.mark();
        x.lose(1, false);
        d.dueReads(x, 0, LOST, 1, 2, DOUBLE);
        x.lose(2, true);
        x.start(0);
        d.dueCounts(x, 1, 1, 1, 5, 0, 0, 0, 1, 1, 1);
        d.due("restore(0)", x.restore(0), 1);
        d.due("told(0, 0)", x.told(0, 0), 1);
        d.due("given(0)", x.given(0), 1);
    }

    static void aRefusedCallChangesNothing(Due d) {
        int[] outside = {-1, 100001};
        for (int time : outside) {
            Twins.refused(d, "start(" + time + ")", States::fresh, x -> x.start(time), OUTSIDE);
            Twins.refused(d, "start(" + time + ")", States::busy, x -> x.start(time), OUTSIDE);
            Twins.refused(d, "start(" + time + ")", States::full, x -> x.start(time), OUTSIDE);
        }
        for (int far : FAR) {
            Twins.refused(d, "start(" + far + ")", States::busy, x -> x.start(far), OUTSIDE);
        }
    }
}
