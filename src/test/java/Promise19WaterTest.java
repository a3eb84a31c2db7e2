/** Promise 19, water(): without PARTS, of PARTS that are not DONE, and of none of these. */
public final class Promise19WaterTest implements Answers {
    public static void main(String[] args) {
        Due.run(Promise19WaterTest.class);
    }

    /** PARTS of two ROWS each, the first of these TIMES, the second a hundred more; the first ROW of each was read. */
    private static SourcePositions oneRowPassedOfEach(int... times) {
        SourcePositions x = new SourcePositions();
        for (int i = 0; i < times.length; i++) {
            x.part(1);
            x.row(i, 2 * i, times[i], true);
            x.row(i, 2 * i + 1, times[i] + 100, true);
        }
        x.scale(1);
        States.reads(x, 0, times.length);
        return x;
    }

    static void withoutParts(Due d) {
        SourcePositions x = new SourcePositions();
        d.due("water()", x.water(), -1);
        x.mark();
        x.start(0);
        d.due("water()", x.water(), -1);
    }

    static void nothingWasPassed(Due d) {
        SourcePositions x = new SourcePositions();
        States.onePart(x, 2);
        d.due("water()", x.water(), -1);
    }

    static void ofOnePartAtBothEndsOfTime(Due d) {
        SourcePositions x = new SourcePositions();
        x.part(1);
        x.row(0, 1, 0, true);
        x.row(0, 2, 100000, true);
        x.give(0, 0);
        x.read(0);
        d.due("water()", x.water(), 0);
        x.read(0);
        d.due("water()", x.water(), 100000);
    }

    static void theLeastWhereverItStands(Due d) {
        d.due("water(), the first", oneRowPassedOfEach(10, 20, 30).water(), 10);
        d.due("water(), the middle", oneRowPassedOfEach(20, 10, 30).water(), 10);
        d.due("water(), the last", oneRowPassedOfEach(30, 20, 10).water(), 10);
        d.due("water(), all the same", oneRowPassedOfEach(20, 20, 20).water(), 20);
    }

    static void aPartWithoutRowsHoldsItBack(Due d) {
        SourcePositions x = oneRowPassedOfEach(10, 20);
        x.part(1);
        d.due("water()", x.water(), -1);
        x.end(2);
        d.due("water(), that one done", x.water(), 10);
    }

    static void aDonePartDoesNotHoldItBack(Due d) {
        SourcePositions x = oneRowPassedOfEach(10, 20);
        x.end(0);
        d.due("water(), ended but ready", x.water(), 10);
        x.read(0);
        d.due("water(), done", x.water(), 20);
    }

    static void aPartThatIsNotReadyHoldsItBackUntilItsEnd(Due d) {
        SourcePositions x = oneRowPassedOfEach(10, 20);
        States.reads(x, 0, 2);
        d.due("water()", x.water(), 110);
        x.end(0);
        d.due("water()", x.water(), 120);
    }

    static void ofNoneTheGreatestOfAll(Due d) {
        int[][] times = {{10, 20, 30}, {30, 20, 10}, {10, 30, 20}};
        for (int[] three : times) {
            SourcePositions x = oneRowPassedOfEach(three);
            States.reads(x, 0, 3);
            for (int part = 0; part < 3; part++) {
                x.end(part);
            }
            d.due("count(6)", x.count(6), 3);
            d.due("water()", x.water(), 130);
        }
    }

    static void ofNoneAndNothingWasPassed(Due d) {
        SourcePositions x = new SourcePositions();
        x.part(1);
        x.part(1);
        x.end(0);
        x.end(1);
        d.due("water()", x.water(), -1);
    }

    static void theGreatestOfADonePartDoesNotCountBesideOthers(Due d) {
        SourcePositions x = oneRowPassedOfEach(500, 20);
        x.end(0);
        x.read(0);
        d.due("told(0, 8)", x.told(0, 8), 1);
        d.due("water()", x.water(), 20);
    }

    static void ofTwelveParts(Due d) {
        SourcePositions x = oneRowPassedOfEach(50, 50, 50, 50, 50, 50, 50, 50, 50, 50, 50, 40);
        d.due("water()", x.water(), 40);
    }

    static void lostAndTwiceDoNotMoveIt(Due d) {
        SourcePositions x = new SourcePositions();
        x.part(1);
        x.row(0, 5, 77, true);
        x.give(0, 0);
        x.lose(1, false);
        x.lose(2, true);
        d.dueReads(x, 0, LOST);
        d.due("water()", x.water(), -1);
        d.dueReads(x, 0, 5);
        d.due("water()", x.water(), -1);
        d.dueReads(x, 0, DOUBLE);
        d.due("water()", x.water(), 77);
    }

    static void asideAndDoubleMoveIt(Due d) {
        SourcePositions x = new SourcePositions();
        x.part(1);
        x.row(0, 5, 10, true);
        x.row(0, 6, 20, false);
        x.row(0, 5, 30, true);
        x.give(0, 0);
        d.dueReads(x, 0, 5, ASIDE);
        d.due("water()", x.water(), 20);
        d.dueReads(x, 0, DOUBLE);
        d.due("water()", x.water(), 30);
    }

    static void aNewPartHoldsItBackAgain(Due d) {
        SourcePositions x = oneRowPassedOfEach(10);
        x.split(0, 1);
        d.due("told(0, 8)", x.told(0, 8), 1);
        d.due("water()", x.water(), -1);
    }

    static void theQuestionChangesNothing(Due d) {
        Twins.refused(d, "water()", States::fresh, x -> x.water(), -1);
        Twins.refused(d, "water()", States::busy, x -> x.water(), -1);
    }
}
