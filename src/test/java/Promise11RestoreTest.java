/** Promise 11, restore(): which MARKS there are, what is as kept, what stays, and what came later. */
public final class Promise11RestoreTest implements Answers {
    public static void main(String[] args) {
        Due.run(Promise11RestoreTest.class);
    }

    static void withoutMarks(Due d) {
        SourcePositions x = new SourcePositions();
        d.due("restore(0)", x.restore(0), UNKNOWN);
        d.due("restore(-1)", x.restore(-1), UNKNOWN);
    }

    static void theMarkBeforeTheFirst(Due d) {
        SourcePositions x = new SourcePositions();
        x.mark();
        d.due("restore(-1)", x.restore(-1), UNKNOWN);
        d.due("restore(0)", x.restore(0), 0);
    }

    static void theMarkBehindTheLast(Due d) {
        SourcePositions x = new SourcePositions();
        for (int marks = 1; marks <= 6; marks++) {
            x.mark();
            d.due("restore(" + (marks - 1) + ")", x.restore(marks - 1), 0);
            d.due("restore(" + marks + ")", x.restore(marks), UNKNOWN);
        }
    }

    static void marksFarOff(Due d) {
        SourcePositions x = new SourcePositions();
        x.mark();
        for (int far : FAR) {
            d.due("restore(" + far + ")", x.restore(far), UNKNOWN);
        }
    }

    static void nothingMoved(Due d) {
        SourcePositions x = new SourcePositions();
        States.onePart(x, 3);
        x.read(0);
        x.mark();
        d.due("restore(0) at once", x.restore(0), 0);
        x.read(0);
        d.due("restore(0)", x.restore(0), 1);
        d.due("restore(0) again", x.restore(0), 0);
    }

    static void onlyAnotherPositionCounts(Due d) {
        SourcePositions x = new SourcePositions();
        x.part(2);
        x.part(3);
        States.rows(x, 0, 2, 0, 10);
        States.rows(x, 1, 2, 10, 10);
        x.scale(1);
        x.mark();
        x.lose(1, false);
        d.dueReads(x, 0, LOST);
        x.give(0, NONE);
        d.due("restore(0), credits and a reader only", x.restore(0), 0);
        d.due("told(0, 2)", x.told(0, 2), 0);
        d.due("told(1, 2)", x.told(1, 2), 0);
        d.due("told(0, 4)", x.told(0, 4), 0);
        d.dueReads(x, 0, 10);
        d.due("restore(0), one of two parts", x.restore(0), 1);
        d.dueReads(x, 0, 10, 0);
        d.due("restore(0), both", x.restore(0), 2);
    }

    static void theSamePositionAnotherWay(Due d) {
        SourcePositions x = new SourcePositions();
        States.onePart(x, 3);
        States.reads(x, 0, 2);
        x.mark();
        x.start(2);
        d.due("told(0, 0)", x.told(0, 0), 2);
        d.due("told(0, 1)", x.told(0, 1), -1);
        d.due("restore(0)", x.restore(0), 0);
        d.due("told(0, 1)", x.told(0, 1), 1);
        d.due("count(4)", x.count(4), 2);
    }

    static void forwardsToALaterMark(Due d) {
        SourcePositions x = new SourcePositions();
        States.onePart(x, 3);
        x.mark();
        States.reads(x, 0, 3);
        x.mark();
        x.restore(0);
        d.due("restore(1)", x.restore(1), 1);
        d.dueTold(x, 0, 3, 2, 0, 1, 0, 3, 0, 0, 0, NONE);
        d.due("given(2)", x.given(2), 1);
        d.dueReads(x, 0, NONE);
    }

    static void allPartsMoved(Due d) {
        SourcePositions x = new SourcePositions();
        for (int part = 0; part < 12; part++) {
            x.part(1);
            x.row(part, part, 0, true);
        }
        x.scale(1);
        x.mark();
        States.reads(x, 0, 12);
        d.due("restore(0)", x.restore(0), 12);
    }

    static void partsThatCameLater(Due d) {
        SourcePositions x = new SourcePositions();
        x.part(1);
        x.mark();
        x.part(2);
        x.part(3);
        States.rows(x, 1, 3, 0, 10);
        States.rows(x, 2, 3, 10, 10);
        x.end(2);
        x.scale(1);
        d.dueReads(x, 0, 10, 0);
        d.due("restore(0)", x.restore(0), 2);
        d.dueTold(x, 0, 0, -1, 0, 1, NONE, 0, 0, 0, 0, NONE);
        d.dueTold(x, 1, 0, -1, 0, 2, NONE, 3, 0, 1, 0, NONE);
        d.dueTold(x, 2, 0, -1, 0, 3, NONE, 3, 1, 1, 0, NONE);
        d.due("count(0)", x.count(0), 3);
    }

    static void partsThatCameLaterAndDidNotMove(Due d) {
        SourcePositions x = new SourcePositions();
        x.mark();
        x.part(1);
        x.row(0, 0, 0, true);
        x.give(0, 0);
        d.due("restore(0)", x.restore(0), 0);
        d.due("told(0, 4)", x.told(0, 4), NONE);
    }

    static void aReaderThatIsNoTaskAnyMore(Due d) {
        for (int tasks = 1; tasks <= 6; tasks++) {
            SourcePositions x = new SourcePositions();
            for (int part = 0; part < 6; part++) {
                x.part(1);
            }
            x.scale(6);
            x.mark();
            x.scale(tasks);
            d.due("restore(0)", x.restore(0), 0);
            for (int part = 0; part < 6; part++) {
                d.due("told(" + part + ", 4) with " + tasks + " tasks", x.told(part, 4), part < tasks ? part : NONE);
            }
            d.due("count(1)", x.count(1), tasks);
        }
    }

    static void aReaderThatIsATaskAgain(Due d) {
        SourcePositions x = new SourcePositions();
        x.part(1);
        x.scale(6);
        x.give(0, 5);
        x.mark();
        x.scale(5);
        x.restore(0);
        d.due("told(0, 4)", x.told(0, 4), NONE);
        x.scale(6);
        x.restore(0);
        d.due("told(0, 4)", x.told(0, 4), 5);
    }

    static void noReaderIsKeptToo(Due d) {
        SourcePositions x = new SourcePositions();
        x.part(1);
        x.mark();
        x.give(0, 0);
        x.restore(0);
        d.due("told(0, 4)", x.told(0, 4), NONE);
    }

    static void rowsSharesPartsAndEndsStay(Due d) {
        SourcePositions x = new SourcePositions();
        x.part(9);
        x.row(0, 1, 1, true);
        x.mark();
        x.row(0, 2, 2, true);
        x.row(0, 3, 3, false);
        x.split(0, 1);
        x.part(4);
        x.end(2);
        x.restore(0);
        d.dueTold(x, 0, 0, -1, 0, 9, NONE, 1, 1, 1, 0, NONE);
        d.dueTold(x, 1, 0, -1, 0, 9, NONE, 2, 0, 1, 0, 0);
        d.dueTold(x, 2, 0, -1, 0, 4, NONE, 0, 1, 0, 1, NONE);
        d.due("number(1, 0)", x.number(1, 0), 2);
    }

    static void aRowThatCameLaterIsReadBehindTheMark(Due d) {
        SourcePositions x = new SourcePositions();
        States.onePart(x, 2);
        States.reads(x, 0, 2);
        x.mark();
        x.row(0, 9, 9, true);
        d.dueReads(x, 0, 9);
        x.restore(0);
        d.due("told(0, 7)", x.told(0, 7), 1);
        d.dueReads(x, 0, 9, NONE);
    }

    static void deliveriesAndWhatIsToldOfThemStay(Due d) {
        SourcePositions x = new SourcePositions();
        States.onePart(x, 4);
        x.row(0, 0, 9, true);
        x.mark();
        x.lose(2, false);
        d.dueReads(x, 0, 0, LOST, 1, 2, 3, DOUBLE);
        x.lose(2, false);
        x.lose(3, true);
        x.restore(0);
        d.dueCounts(x, 1, 1, 1, 6, 0, 0, 0, 1, 1, 2);
        d.dueReads(x, 0, 0);
        d.due("latest(3)", x.latest(3), 7);
        d.dueReads(x, 0, LOST, 1, DOUBLE, 2);
    }

    static void nothingGivenAndNothingAside(Due d) {
        SourcePositions x = new SourcePositions();
        States.onePart(x, 2);
        x.row(0, 9, 9, false);
        x.mark();
        d.dueReads(x, 0, 0, 1, ASIDE);
        x.restore(0);
        d.due("count(4)", x.count(4), 0);
        d.due("count(5)", x.count(5), 0);
        d.due("given(0)", x.given(0), 0);
        d.due("given(1)", x.given(1), 0);
        d.due("aside(0, 0)", x.aside(0, 0), UNKNOWN);
        d.dueReads(x, 0, 0, 1, ASIDE);
        d.due("aside(0, 1)", x.aside(0, 1), 2);
    }

    static void givenAndAsideAreAsKept(Due d) {
        SourcePositions x = new SourcePositions();
        x.part(1);
        x.row(0, 0, 0, true);
        x.row(0, 255, 0, true);
        x.row(0, 7, 0, false);
        x.row(0, 8, 0, false);
        x.row(0, 9, 0, true);
        x.give(0, 0);
        States.reads(x, 0, 3);
        x.mark();
        States.reads(x, 0, 2);
        x.restore(0);
        d.due("count(4)", x.count(4), 2);
        d.due("given(0)", x.given(0), 1);
        d.due("given(255)", x.given(255), 1);
        d.due("given(9)", x.given(9), 0);
        d.due("count(5)", x.count(5), 1);
        d.due("aside(0, 1)", x.aside(0, 1), 2);
        d.due("aside(1, 1)", x.aside(1, 1), UNKNOWN);
        x.start(0);
        x.restore(0);
        d.due("count(4) behind start()", x.count(4), 2);
        d.due("given(0) behind start()", x.given(0), 1);
        d.due("given(255) behind start()", x.given(255), 1);
        d.due("aside(0, 1) behind start()", x.aside(0, 1), 2);
    }

    static void otherThingsThatAreAsideGiveWayToThoseKept(Due d) {
        SourcePositions x = new SourcePositions();
        x.part(1);
        x.part(1);
        x.row(0, 0, 0, true);
        x.row(0, 1, 0, false);
        x.row(1, 2, 0, false);
        x.scale(2);
        d.dueReads(x, 0, 0, ASIDE);
        x.mark();
        x.start(0);
        d.dueReads(x, 1, ASIDE);
        d.due("aside(0, 0)", x.aside(0, 0), 1);
        d.due("aside(0, 1)", x.aside(0, 1), 0);
        x.mark();
        x.restore(0);
        d.due("aside(0, 0)", x.aside(0, 0), 0);
        d.due("aside(0, 1)", x.aside(0, 1), 1);
        x.restore(1);
        d.due("aside(0, 0)", x.aside(0, 0), 1);
        d.due("aside(0, 1)", x.aside(0, 1), 0);
    }

    static void whatIsAsideHasRoomAgain(Due d) {
        SourcePositions x = new SourcePositions();
        for (int part = 0; part < 3; part++) {
            x.part(1);
            for (int i = 0; i < 34; i++) {
                x.row(part, 0, 0, false);
            }
        }
        x.scale(1);
        States.reads(x, 0, 99);
        x.mark();
        States.reads(x, 0, 3);
        d.due("count(5)", x.count(5), 100);
        x.restore(0);
        d.due("count(5)", x.count(5), 99);
        x.give(0, NONE);
        d.dueReads(x, 0, ASIDE, ASIDE);
        d.due("count(5)", x.count(5), 100);
        d.due("aside(99, 0), the first of those now", x.aside(99, 0), 1);
        d.due("aside(99, 1)", x.aside(99, 1), 33);
    }

    static void numbersGivenAtBothEndsGiveWayToThoseKept(Due d) {
        SourcePositions x = new SourcePositions();
        x.part(1);
        int[] numbers = {0, 1, 254, 255};
        for (int number : numbers) {
            x.row(0, number, 0, true);
        }
        x.give(0, 0);
        x.mark();
        States.reads(x, 0, 4);
        x.mark();
        for (int mark = 0; mark <= 1; mark++) {
            x.restore(mark);
            for (int number : numbers) {
                d.due("given(" + number + ") in mark " + mark, x.given(number), mark);
            }
        }
        x.restore(0);
        for (int number : numbers) {
            d.due("given(" + number + ")", x.given(number), 0);
        }
    }

    static void creditIsAsKept(Due d) {
        SourcePositions x = new SourcePositions();
        x.part(2);
        x.part(3);
        States.rows(x, 0, 3, 0, 0);
        States.rows(x, 1, 3, 10, 0);
        x.scale(1);
        d.dueReads(x, 0, 10);
        x.mark();
        d.dueReads(x, 0, 0);
        d.due("told(0, 2)", x.told(0, 2), -1);
        x.restore(0);
        d.due("told(0, 2)", x.told(0, 2), 2);
        d.due("told(1, 2)", x.told(1, 2), -2);
        x.start(0);
        x.restore(0);
        d.due("told(0, 2) behind start()", x.told(0, 2), 2);
        d.due("told(1, 2) behind start()", x.told(1, 2), -2);
        d.dueReads(x, 0, 0);
    }

    static void aMarkIsKeptThoughOneWentBackToIt(Due d) {
        SourcePositions x = new SourcePositions();
        States.onePart(x, 4);
        x.read(0);
        x.mark();
        x.restore(0);
        States.reads(x, 0, 3);
        x.give(0, NONE);
        d.due("restore(0)", x.restore(0), 1);
        d.dueTold(x, 0, 1, 0, 0, 1, 0, 4, 0, 1, 0, NONE);
        d.due("count(4)", x.count(4), 1);
    }

    static void thePositionMayLieBehindTheRowsThatASplitLeft(Due d) {
        SourcePositions x = new SourcePositions();
        States.onePart(x, 5);
        States.reads(x, 0, 4);
        x.mark();
        x.start(0);
        x.split(0, 2);
        d.due("restore(0)", x.restore(0), 1);
        d.dueTold(x, 0, 4, 3, 0, 1, 0, 2, 1, 0, 1, NONE);
        d.dueReads(x, 0, NONE);
        d.due("water()", x.water(), -1);
        d.due("give(0, NONE)", x.give(0, NONE), STATE);
    }

    static void aDonePartIsReadyAgain(Due d) {
        SourcePositions x = new SourcePositions();
        States.onePart(x, 1);
        x.mark();
        x.end(0);
        x.read(0);
        d.due("told(0, 8)", x.told(0, 8), 1);
        x.restore(0);
        d.due("told(0, 8)", x.told(0, 8), 0);
        d.dueReads(x, 0, 0, NONE);
    }

    static void aRefusedCallChangesNothing(Due d) {
        Twins.refused(d, "restore(0)", States::fresh, x -> x.restore(0), UNKNOWN);
        Twins.refused(d, "restore(-1)", States::busy, x -> x.restore(-1), UNKNOWN);
        Twins.refused(d, "restore(3)", States::busy, x -> x.restore(3), UNKNOWN);
        Twins.refused(d, "restore(6)", States::full, x -> x.restore(6), UNKNOWN);
        for (int far : FAR) {
            Twins.refused(d, "restore(" + far + ")", States::busy, x -> x.restore(far), UNKNOWN);
        }
    }
}
