/** Promise 6, give(): which PARTS and TASKS there are, NONE among the TASKS, and that a PART that is DONE is not given. */
public final class Promise06GiveTest implements Answers {
    public static void main(String[] args) {
        Due.run(Promise06GiveTest.class);
    }

    private static void donePart(SourcePositions x) {
        States.onePart(x, 1);
        x.read(0);
        x.end(0);
    }

    static void thePartBeforeTheFirst(Due d) {
        SourcePositions x = new SourcePositions();
        x.part(1);
        d.due("give(-1, 0)", x.give(-1, 0), UNKNOWN);
        d.due("give(-1, NONE)", x.give(-1, NONE), UNKNOWN);
        d.due("give(0, 0)", x.give(0, 0), NONE);
    }

    static void thePartBehindTheLast(Due d) {
        SourcePositions x = new SourcePositions();
        x.part(1);
        x.part(1);
        d.due("give(2, 0)", x.give(2, 0), UNKNOWN);
        d.due("give(11, 0)", x.give(11, 0), UNKNOWN);
        d.due("give(1, 0)", x.give(1, 0), NONE);
    }

    static void thePartBehindTheTwelfth(Due d) {
        SourcePositions x = new SourcePositions();
        States.full(x);
        d.due("give(12, 0)", x.give(12, 0), UNKNOWN);
        d.due("give(11, 0)", x.give(11, 0), 5);
    }

    static void theTaskBehindTheLast(Due d) {
        SourcePositions x = new SourcePositions();
        x.part(1);
        d.due("give(0, 1) of one task", x.give(0, 1), UNKNOWN);
        for (int tasks = 1; tasks <= 6; tasks++) {
            x.scale(tasks);
            d.due("give(0, " + tasks + ")", x.give(0, tasks), UNKNOWN);
            d.due("told(0, 4)", x.told(0, 4), 0);
            d.due("give(0, " + (tasks - 1) + ")", x.give(0, tasks - 1), 0);
            d.due("told(0, 4)", x.told(0, 4), tasks - 1);
        }
    }

    static void theTaskBeforeNone(Due d) {
        SourcePositions x = new SourcePositions();
        x.part(1);
        x.give(0, 0);
        d.due("give(0, -2)", x.give(0, -2), UNKNOWN);
        d.due("told(0, 4)", x.told(0, 4), 0);
        d.due("give(0, NONE)", x.give(0, NONE), 0);
    }

    static void theTaskOfAScaleThatIsNoMore(Due d) {
        SourcePositions x = new SourcePositions();
        x.part(1);
        x.scale(6);
        x.scale(2);
        d.due("give(0, 2)", x.give(0, 2), UNKNOWN);
        d.due("give(0, 5)", x.give(0, 5), UNKNOWN);
        d.due("give(0, 1)", x.give(0, 1), 0);
    }

    static void bothAreUnknown(Due d) {
        SourcePositions x = new SourcePositions();
        x.part(1);
        d.due("give(1, 1)", x.give(1, 1), UNKNOWN);
        d.due("give(-1, -2)", x.give(-1, -2), UNKNOWN);
    }

    static void numbersFarOff(Due d) {
        SourcePositions x = new SourcePositions();
        x.part(1);
        for (int far : FAR) {
            d.due("give(" + far + ", 0)", x.give(far, 0), UNKNOWN);
            d.due("give(0, " + far + ")", x.give(0, far), UNKNOWN);
        }
        d.due("told(0, 4)", x.told(0, 4), NONE);
    }

    static void byNoneAndByNoneAgain(Due d) {
        SourcePositions x = new SourcePositions();
        States.onePart(x, 2);
        d.due("give(0, NONE)", x.give(0, NONE), 0);
        d.due("told(0, 4)", x.told(0, 4), NONE);
        d.dueReads(x, 0, NONE);
        d.due("give(0, NONE)", x.give(0, NONE), NONE);
    }

    static void byTheSameTaskAgain(Due d) {
        SourcePositions x = new SourcePositions();
        States.onePart(x, 2);
        d.due("give(0, 0)", x.give(0, 0), 0);
        d.dueReads(x, 0, 0, 1);
    }

    static void aPartWithoutRowsIsNotDone(Due d) {
        SourcePositions x = new SourcePositions();
        x.part(1);
        d.due("give(0, 0)", x.give(0, 0), NONE);
        d.due("give(0, NONE)", x.give(0, NONE), 0);
    }

    static void anEndedPartWithoutRowsIsDone(Due d) {
        SourcePositions x = new SourcePositions();
        x.part(1);
        x.end(0);
        d.due("give(0, 0)", x.give(0, 0), STATE);
        d.due("told(0, 4)", x.told(0, 4), NONE);
    }

    static void anEndedPartWithARowLeftIsNotDone(Due d) {
        SourcePositions x = new SourcePositions();
        States.onePart(x, 2);
        x.read(0);
        x.end(0);
        d.due("give(0, NONE)", x.give(0, NONE), 0);
        d.due("give(0, 0)", x.give(0, 0), NONE);
        x.read(0);
        d.due("give(0, NONE), done", x.give(0, NONE), STATE);
    }

    static void aPartWhoseRowsWereAllPassedIsNotDoneBeforeItsEnd(Due d) {
        SourcePositions x = new SourcePositions();
        States.onePart(x, 1);
        x.read(0);
        d.due("give(0, NONE)", x.give(0, NONE), 0);
    }

    static void aDonePartKeepsItsReader(Due d) {
        SourcePositions x = new SourcePositions();
        donePart(x);
        d.due("give(0, 0)", x.give(0, 0), STATE);
        d.due("give(0, NONE)", x.give(0, NONE), STATE);
        d.due("told(0, 4)", x.told(0, 4), 0);
    }

    static void aPartThatIsReadyAgainIsGiven(Due d) {
        SourcePositions x = new SourcePositions();
        donePart(x);
        x.start(0);
        d.due("give(0, NONE)", x.give(0, NONE), 0);
    }

    static void unknownComesAheadOfState(Due d) {
        SourcePositions x = new SourcePositions();
        donePart(x);
        d.due("give(0, 1)", x.give(0, 1), UNKNOWN);
        d.due("give(0, -2)", x.give(0, -2), UNKNOWN);
        d.due("give(1, 0)", x.give(1, 0), UNKNOWN);
    }

    static void aRefusedCallChangesNothing(Due d) {
        Twins.refused(d, "give(0, 0)", States::fresh, x -> x.give(0, 0), UNKNOWN);
        Twins.refused(d, "give(-1, 0)", States::busy, x -> x.give(-1, 0), UNKNOWN);
        Twins.refused(d, "give(6, 0)", States::busy, x -> x.give(6, 0), UNKNOWN);
        Twins.refused(d, "give(12, 0)", States::full, x -> x.give(12, 0), UNKNOWN);
        Twins.refused(d, "give(0, 3)", States::busy, x -> x.give(0, 3), UNKNOWN);
        Twins.refused(d, "give(0, 6)", States::full, x -> x.give(0, 6), UNKNOWN);
        Twins.refused(d, "give(4, 0)", States::busy, x -> x.give(4, 0), STATE);
        Twins.refused(d, "give(4, NONE)", States::busy, x -> x.give(4, NONE), STATE);
        for (int far : FAR) {
            Twins.refused(d, "give(" + far + ", 0)", States::busy, x -> x.give(far, 0), UNKNOWN);
            Twins.refused(d, "give(0, " + far + ")", States::busy, x -> x.give(0, far), UNKNOWN);
        }
    }
}
