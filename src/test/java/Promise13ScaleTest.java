/** Promise 13, scale(): one TASK to six, who reads what then, and PARTS that are DONE. */
public final class Promise13ScaleTest implements Answers {
    public static void main(String[] args) {
        Due.run(Promise13ScaleTest.class);
    }

    static void oneIsTheLeast(Due d) {
        SourcePositions x = new SourcePositions();
        x.scale(3);
        d.due("scale(0)", x.scale(0), OUTSIDE);
        d.due("scale(-1)", x.scale(-1), OUTSIDE);
        d.due("count(1)", x.count(1), 3);
        d.due("scale(1)", x.scale(1), 0);
        d.due("count(1)", x.count(1), 1);
    }

    static void sixIsTheGreatest(Due d) {
        SourcePositions x = new SourcePositions();
        d.due("scale(7)", x.scale(7), OUTSIDE);
        d.due("count(1)", x.count(1), 1);
        d.due("scale(6)", x.scale(6), 0);
        d.due("count(1)", x.count(1), 6);
    }

    static void numbersFarOff(Due d) {
        SourcePositions x = new SourcePositions();
        for (int far : FAR) {
            d.due("scale(" + far + ")", x.scale(far), OUTSIDE);
        }
        d.due("count(1)", x.count(1), 1);
    }

    static void withoutParts(Due d) {
        SourcePositions x = new SourcePositions();
        for (int n = 1; n <= 6; n++) {
            d.due("scale(" + n + ")", x.scale(n), 0);
            d.due("count(1)", x.count(1), n);
        }
    }

    static void roundAndRoundByEachNumberOfTasks(Due d) {
        SourcePositions x = new SourcePositions();
        for (int part = 0; part < 12; part++) {
            x.part(1);
        }
        for (int n = 1; n <= 6; n++) {
            d.due("scale(" + n + ")", x.scale(n), 12);
            for (int part = 0; part < 12; part++) {
                d.due("told(" + part + ", 4) of " + n, x.told(part, 4), part % n);
            }
        }
    }

    static void moreTasksThanParts(Due d) {
        SourcePositions x = new SourcePositions();
        States.onePart(x, 1);
        d.due("scale(6)", x.scale(6), 1);
        d.due("told(0, 4)", x.told(0, 4), 0);
        d.dueReads(x, 5, NONE);
        d.dueReads(x, 0, 0);
    }

    static void donePartsAreReadByNoneAndTakeNoTurn(Due d) {
        SourcePositions x = new SourcePositions();
        for (int part = 0; part < 5; part++) {
            x.part(1);
        }
        x.scale(3);
        x.end(0);
        x.end(2);
        d.due("told(2, 4) ahead of it", x.told(2, 4), 2);
        d.due("scale(2)", x.scale(2), 3);
        int[] readers = {NONE, 0, NONE, 1, 0};
        for (int part = 0; part < 5; part++) {
            d.due("told(" + part + ", 4)", x.told(part, 4), readers[part]);
        }
    }

    static void allPartsAreDone(Due d) {
        SourcePositions x = new SourcePositions();
        for (int part = 0; part < 12; part++) {
            x.part(1);
            x.give(part, 0);
            x.end(part);
        }
        d.due("scale(6)", x.scale(6), 0);
        for (int part = 0; part < 12; part++) {
            d.due("told(" + part + ", 4)", x.told(part, 4), NONE);
        }
        d.due("count(1)", x.count(1), 6);
    }

    static void partsThatAreNotReadyButNotEndedAreRead(Due d) {
        SourcePositions x = new SourcePositions();
        States.onePart(x, 1);
        x.read(0);
        x.part(1);
        x.give(0, NONE);
        d.due("scale(1)", x.scale(1), 2);
        d.due("told(0, 4)", x.told(0, 4), 0);
        d.due("told(1, 4)", x.told(1, 4), 0);
    }

    static void endedPartsThatAreReadyAreRead(Due d) {
        SourcePositions x = new SourcePositions();
        States.onePart(x, 1);
        x.end(0);
        d.due("scale(2)", x.scale(2), 1);
        d.due("told(0, 4)", x.told(0, 4), 0);
        x.read(0);
        d.due("scale(2), done", x.scale(2), 0);
        d.due("told(0, 4)", x.told(0, 4), NONE);
    }

    static void toTheSameNumberAgain(Due d) {
        SourcePositions x = new SourcePositions();
        x.part(1);
        x.part(1);
        x.scale(2);
        x.give(0, 1);
        x.give(1, NONE);
        d.due("scale(2)", x.scale(2), 2);
        d.due("told(0, 4)", x.told(0, 4), 0);
        d.due("told(1, 4)", x.told(1, 4), 1);
    }

    static void fewerTasks(Due d) {
        SourcePositions x = new SourcePositions();
        States.onePart(x, 1);
        x.scale(6);
        d.dueReads(x, 5, NONE);
        x.scale(5);
        d.dueReads(x, 5, UNKNOWN);
        d.dueReads(x, 4, NONE);
        d.due("give(0, 5)", x.give(0, 5), UNKNOWN);
    }

    static void positionsWatersAndCreditsStay(Due d) {
        SourcePositions x = new SourcePositions();
        x.part(2);
        x.part(3);
        States.rows(x, 0, 2, 0, 50);
        States.rows(x, 1, 2, 10, 60);
        x.scale(1);
        d.dueReads(x, 0, 10);
        x.scale(2);
        d.dueTold(x, 0, 0, -1, 2, 2, 0, 2, 0, 1, 0, NONE);
        d.dueTold(x, 1, 1, 60, -2, 3, 1, 2, 0, 1, 0, NONE);
    }

    static void aRefusedCallChangesNothing(Due d) {
        int[] outside = {0, 7, -1};
        for (int n : outside) {
            Twins.refused(d, "scale(" + n + ")", States::fresh, x -> x.scale(n), OUTSIDE);
            Twins.refused(d, "scale(" + n + ")", States::busy, x -> x.scale(n), OUTSIDE);
            Twins.refused(d, "scale(" + n + ")", States::full, x -> x.scale(n), OUTSIDE);
        }
        for (int far : FAR) {
            Twins.refused(d, "scale(" + far + ")", States::busy, x -> x.scale(far), OUTSIDE);
        }
    }
}
