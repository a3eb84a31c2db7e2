/** Promise 20, count(): its ten questions, each at its least and its greatest. */
public final class Promise20CountTest implements Answers {
    public static void main(String[] args) {
        Due.run(Promise20CountTest.class);
    }

    static void theQuestionsAtBothEnds(Due d) {
        SourcePositions x = new SourcePositions();
        d.due("count(-1)", x.count(-1), OUTSIDE);
        d.due("count(0)", x.count(0), 0);
        d.due("count(9)", x.count(9), 0);
        d.due("count(10)", x.count(10), OUTSIDE);
        for (int far : FAR) {
            d.due("count(" + far + ")", x.count(far), OUTSIDE);
        }
    }

    static void allAtTheBeginning(Due d) {
        d.dueCounts(new SourcePositions(), 0, 1, 0, 0, 0, 0, 0, 0, 0, 0);
    }

    static void eachCountsItsOwn(Due d) {
        SourcePositions x = new SourcePositions();
        States.busy(x);
        // GIVEN: 20, 10, 21, 40, 41, 30 (twice) and 22; ASIDE: the third ROW of PART 4, which is DONE.
        d.dueCounts(x, 6, 3, 3, 9, 7, 1, 1, 1, 0, 4);
    }

    static void partsTasksAndMarksAtTheirMost(Due d) {
        SourcePositions x = new SourcePositions();
        for (int i = 0; i < 13; i++) {
            x.part(1);
            x.mark();
        }
        x.scale(6);
        x.scale(7);
        d.due("count(0)", x.count(0), 12);
        d.due("count(1)", x.count(1), 6);
        d.due("count(2)", x.count(2), 6);
    }

    static void splitPartsCount(Due d) {
        SourcePositions x = new SourcePositions();
        States.onePart(x, 3);
        x.split(0, 1);
        d.due("count(0)", x.count(0), 2);
        x.split(0, 0);
        d.due("count(0), refused", x.count(0), 2);
    }

    static void deliveriesThatWereLostOrDoubleCountAmongAll(Due d) {
        SourcePositions x = new SourcePositions();
        States.onePart(x, 1);
        x.row(0, 0, 0, true);
        x.row(0, 5, 5, false);
        x.lose(1, false);
        d.dueReads(x, 0, LOST, 0, DOUBLE, ASIDE, NONE);
        d.due("count(3)", x.count(3), 4);
        d.due("count(7)", x.count(7), 1);
        d.due("count(8)", x.count(8), 1);
        d.due("count(5)", x.count(5), 1);
        d.due("count(4)", x.count(4), 1);
    }

    static void manyGiven(Due d) {
        SourcePositions x = new SourcePositions();
        for (int part = 0; part < 6; part++) {
            x.part(1);
            States.rows(x, part, 40, 40 * part, 0);
        }
        x.scale(1);
        States.reads(x, 0, 240);
        d.due("count(4)", x.count(4), 240);
        d.due("count(3)", x.count(3), 240);
        d.due("count(8)", x.count(8), 0);
    }

    static void theSameNumberIsGivenOnce(Due d) {
        SourcePositions x = new SourcePositions();
        x.part(1);
        for (int i = 0; i < 40; i++) {
            x.row(0, 255, i, true);
        }
        x.give(0, 0);
        States.reads(x, 0, 40);
        d.due("count(4)", x.count(4), 1);
        d.due("count(8)", x.count(8), 39);
    }

    static void aHundredAsideAtMost(Due d) {
        SourcePositions x = new SourcePositions();
        for (int part = 0; part < 3; part++) {
            x.part(1);
            for (int i = 0; i < 40; i++) {
                x.row(part, 0, 0, false);
            }
        }
        x.scale(1);
        States.reads(x, 0, 99);
        d.due("count(5)", x.count(5), 99);
        x.read(0);
        d.due("count(5)", x.count(5), 100);
        x.read(0);
        d.due("count(5)", x.count(5), 100);
        States.reads(x, 0, 19);
        d.due("count(5)", x.count(5), 100);
        d.due("count(3)", x.count(3), 120);
    }

    static void doneFromNoneToAll(Due d) {
        SourcePositions x = new SourcePositions();
        for (int part = 0; part < 12; part++) {
            x.part(1);
        }
        for (int part = 0; part < 12; part++) {
            d.due("count(6)", x.count(6), part);
            x.end(part);
        }
        d.due("count(6)", x.count(6), 12);
    }

    static void endedButReadyIsNotDone(Due d) {
        SourcePositions x = new SourcePositions();
        States.onePart(x, 1);
        d.due("count(6)", x.count(6), 0);
        x.end(0);
        d.due("count(6)", x.count(6), 0);
        x.read(0);
        d.due("count(6)", x.count(6), 1);
        x.start(0);
        d.due("count(6)", x.count(6), 0);
    }

    static void toldOfDeliveriesToCome(Due d) {
        SourcePositions x = new SourcePositions();
        States.onePart(x, 3);
        x.lose(1, false);
        d.due("count(9)", x.count(9), 1);
        x.lose(1, true);
        d.due("count(9), a number that is both", x.count(9), 2);
        x.lose(1, false);
        x.lose(1, true);
        x.lose(0, true);
        x.lose(51, false);
        d.due("count(9), told again and refused", x.count(9), 2);
        x.lose(50, true);
        d.due("count(9)", x.count(9), 3);
        d.dueReads(x, 0, LOST);
        d.due("count(9), both of that number are over", x.count(9), 1);
        d.dueReads(x, 0, 0);
        d.due("count(9), nothing told of that number", x.count(9), 1);
    }

    static void allThatCanBeToldOfDeliveriesToCome(Due d) {
        SourcePositions x = new SourcePositions();
        States.onePart(x, 1);
        for (int n = 1; n <= 50; n++) {
            x.lose(n, true);
            x.lose(n, false);
            d.due("count(9)", x.count(9), 2 * n);
        }
        for (int n = 1; n <= 50; n++) {
            x.read(0);
            d.due("count(9)", x.count(9), 100 - 2 * n);
            d.due("count(7)", x.count(7), n);
        }
    }

    static void theQuestionChangesNothing(Due d) {
        Twins.refused(d, "count(-1)", States::busy, x -> x.count(-1), OUTSIDE);
        Twins.refused(d, "count(10)", States::busy, x -> x.count(10), OUTSIDE);
        Twins.refused(d, "count(10)", States::fresh, x -> x.count(10), OUTSIDE);
        Twins.refused(d, "count(3)", States::busy, x -> x.count(3), 9);
        for (int far : FAR) {
            Twins.refused(d, "count(" + far + ")", States::busy, x -> x.count(far), OUTSIDE);
        }
    }
}
