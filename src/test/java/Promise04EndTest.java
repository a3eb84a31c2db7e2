/** Promise 4, end(): which PARTS there are, and that a PART is ENDED once. */
public final class Promise04EndTest implements Answers {
    public static void main(String[] args) {
        Due.run(Promise04EndTest.class);
    }

    static void thePartBeforeTheFirst(Due d) {
        SourcePositions x = new SourcePositions();
        x.part(1);
        d.due("end(-1)", x.end(-1), UNKNOWN);
        d.due("end(0)", x.end(0), 0);
    }

    static void thePartBehindTheLast(Due d) {
        SourcePositions x = new SourcePositions();
        x.part(1);
        x.part(1);
        d.due("end(2)", x.end(2), UNKNOWN);
        d.due("end(11)", x.end(11), UNKNOWN);
        d.due("end(1)", x.end(1), 0);
        d.due("told(0, 6)", x.told(0, 6), 0);
    }

    static void thePartBehindTheTwelfth(Due d) {
        SourcePositions x = new SourcePositions();
        States.full(x);
        d.due("end(12)", x.end(12), UNKNOWN);
        d.due("end(11)", x.end(11), 3);
    }

    static void partsFarOff(Due d) {
        SourcePositions x = new SourcePositions();
        x.part(1);
        for (int far : FAR) {
            d.due("end(" + far + ")", x.end(far), UNKNOWN);
        }
        d.due("told(0, 6)", x.told(0, 6), 0);
    }

    static void aPartWithoutRowsIsDoneThen(Due d) {
        SourcePositions x = new SourcePositions();
        x.part(1);
        d.due("told(0, 8) before", x.told(0, 8), 0);
        d.due("end(0)", x.end(0), 0);
        d.dueTold(x, 0, 0, -1, 0, 1, NONE, 0, 1, 0, 1, NONE);
    }

    static void aFullPart(Due d) {
        SourcePositions x = new SourcePositions();
        States.onePart(x, 40);
        d.due("end(0)", x.end(0), 40);
        d.dueTold(x, 0, 0, -1, 0, 1, 0, 40, 1, 1, 0, NONE);
    }

    static void aPartWhoseRowsWereAllPassed(Due d) {
        SourcePositions x = new SourcePositions();
        States.onePart(x, 2);
        States.reads(x, 0, 2);
        d.due("told(0, 8) before", x.told(0, 8), 0);
        d.due("end(0)", x.end(0), 2);
        d.dueTold(x, 0, 2, 1, 0, 1, 0, 2, 1, 0, 1, NONE);
    }

    static void aPartWithOneRowLeftIsNotDone(Due d) {
        SourcePositions x = new SourcePositions();
        States.onePart(x, 2);
        States.reads(x, 0, 1);
        d.due("end(0)", x.end(0), 2);
        d.due("told(0, 8)", x.told(0, 8), 0);
        d.dueReads(x, 0, 1, NONE);
        d.due("told(0, 8)", x.told(0, 8), 1);
    }

    static void theSecondTime(Due d) {
        SourcePositions x = new SourcePositions();
        States.onePart(x, 1);
        x.end(0);
        d.due("end(0), ready", x.end(0), STATE);
        x.read(0);
        d.due("end(0), done", x.end(0), STATE);
    }

    static void aPartEndedBySplit(Due d) {
        SourcePositions x = new SourcePositions();
        States.onePart(x, 3);
        x.split(0, 1);
        d.due("end(0)", x.end(0), STATE);
        d.due("end(1)", x.end(1), 2);
        x.split(1, 1);
        d.due("end(2), split off an ended part", x.end(2), STATE);
    }

    static void anEndIsNotTakenBack(Due d) {
        SourcePositions x = new SourcePositions();
        States.onePart(x, 1);
        x.mark();
        x.end(0);
        x.restore(0);
        d.due("end(0) behind restore()", x.end(0), STATE);
        x.start(0);
        d.due("end(0) behind start()", x.end(0), STATE);
        x.scale(2);
        d.due("end(0) behind scale()", x.end(0), STATE);
    }

    static void aRefusedCallChangesNothing(Due d) {
        Twins.refused(d, "end(0)", States::fresh, x -> x.end(0), UNKNOWN);
        Twins.refused(d, "end(-1)", States::busy, x -> x.end(-1), UNKNOWN);
        Twins.refused(d, "end(6)", States::busy, x -> x.end(6), UNKNOWN);
        Twins.refused(d, "end(12)", States::full, x -> x.end(12), UNKNOWN);
        Twins.refused(d, "end(1), ready", States::busy, x -> x.end(1), STATE);
        Twins.refused(d, "end(4), done", States::busy, x -> x.end(4), STATE);
        for (int far : FAR) {
            Twins.refused(d, "end(" + far + ")", States::busy, x -> x.end(far), UNKNOWN);
        }
    }
}
