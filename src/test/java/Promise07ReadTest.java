/** Promise 7, read(): which TASKS there are, which PART is DELIVERED from, and what comes of it: the first that fits. */
public final class Promise07ReadTest implements Answers {
    public static void main(String[] args) {
        Due.run(Promise07ReadTest.class);
    }

    /** So many PARTS of one SHARE, each with so many ROWS, all read by TASK 0; the NUMBERS tell the PARTS by tens. */
    private static SourcePositions equalParts(int parts, int share, int rows) {
        SourcePositions x = new SourcePositions();
        for (int part = 0; part < parts; part++) {
            x.part(share);
            States.rows(x, part, rows, 10 * part, 0);
        }
        x.scale(1);
        return x;
    }

    static void theTaskBeforeTheFirst(Due d) {
        SourcePositions x = new SourcePositions();
        States.onePart(x, 2);
        x.give(0, NONE);
        d.due("read(-1), though none reads the part", x.read(-1), UNKNOWN);
        x.give(0, 0);
        d.due("read(-1)", x.read(-1), UNKNOWN);
        d.due("read(0)", x.read(0), 0);
    }

    static void theTaskBehindTheLast(Due d) {
        SourcePositions x = new SourcePositions();
        for (int tasks = 1; tasks <= 6; tasks++) {
            x.scale(tasks);
            d.due("read(" + tasks + ")", x.read(tasks), UNKNOWN);
            d.due("read(" + (tasks - 1) + ")", x.read(tasks - 1), NONE);
        }
        x.scale(1);
        d.due("read(1), no task any more", x.read(1), UNKNOWN);
    }

    static void tasksFarOff(Due d) {
        SourcePositions x = new SourcePositions();
        States.onePart(x, 2);
        for (int far : FAR) {
            d.due("read(" + far + ")", x.read(far), UNKNOWN);
        }
        d.due("count(3)", x.count(3), 0);
    }

    static void noneWithoutParts(Due d) {
        d.due("read(0)", new SourcePositions().read(0), NONE);
    }

    static void noneOfPartsWithoutRows(Due d) {
        SourcePositions x = new SourcePositions();
        States.onePart(x, 0);
        d.dueReads(x, 0, NONE);
        x.row(0, 5, 5, true);
        d.dueReads(x, 0, 5, NONE);
        x.row(0, 6, 6, true);
        d.dueReads(x, 0, 6, NONE);
    }

    static void noneOfPartsThatOthersRead(Due d) {
        SourcePositions x = new SourcePositions();
        x.scale(2);
        States.onePart(x, 1);
        d.dueReads(x, 1, NONE);
        x.give(0, NONE);
        d.dueReads(x, 0, NONE);
        d.dueReads(x, 1, NONE);
        x.give(0, 1);
        d.dueReads(x, 0, NONE);
        d.dueReads(x, 1, 0);
    }

    static void noneBehindTheFortiethRow(Due d) {
        SourcePositions x = new SourcePositions();
        States.onePart(x, 40);
        for (int i = 0; i < 40; i++) {
            d.due("read no. " + (i + 1), x.read(0), i);
        }
        d.due("latest(1)", x.latest(1), 39);
        d.dueReads(x, 0, NONE, NONE);
        d.due("told(0, 0)", x.told(0, 0), 40);
        d.due("count(3)", x.count(3), 40);
    }

    static void anEndedPartIsReadToItsEnd(Due d) {
        SourcePositions x = new SourcePositions();
        States.onePart(x, 2);
        x.end(0);
        d.dueReads(x, 0, 0, 1, NONE);
    }

    static void numbersAtBothEnds(Due d) {
        SourcePositions x = new SourcePositions();
        x.part(1);
        x.row(0, 255, 0, true);
        x.row(0, 0, 0, true);
        x.give(0, 0);
        d.dueReads(x, 0, 255, 0);
    }

    static void ofSeveralWithTheGreatestCreditTheLeast(Due d) {
        SourcePositions x = equalParts(12, 1, 3);
        for (int round = 0; round < 2; round++) {
            for (int part = 0; part < 12; part++) {
                x.read(0);
                d.due("latest(0), round " + round, x.latest(0), part);
            }
        }
        for (int part = 0; part < 12; part++) {
            d.due("told(" + part + ", 2)", x.told(part, 2), 0);
        }
    }

    static void theGreatestCreditThoughItsPartIsTheLast(Due d) {
        SourcePositions x = new SourcePositions();
        x.part(8);
        x.part(9);
        States.rows(x, 0, 2, 0, 0);
        States.rows(x, 1, 2, 10, 0);
        x.scale(1);
        d.dueReads(x, 0, 10, 0);
        d.due("told(0, 2)", x.told(0, 2), -1);
        d.due("told(1, 2)", x.told(1, 2), 1);
    }

    static void aCreditBelowNoughtIsTheGreatestIfAlone(Due d) {
        SourcePositions x = new SourcePositions();
        x.part(1);
        x.part(9);
        States.rows(x, 0, 2, 0, 0);
        States.rows(x, 1, 5, 10, 0);
        x.scale(1);
        // Credits ahead of the choice: 1 9, 2 8, 3 7, 4 6, 5 5.
        d.dueReads(x, 0, 10, 11, 12, 13, 0);
        d.due("told(0, 2)", x.told(0, 2), -5);
        x.give(1, NONE);
        d.dueReads(x, 0, 1);
        d.dueLatest(x, 0, 1, 1, 6, -5);
    }

    static void onlyReadyPartsOfTheTaskGetCredit(Due d) {
        SourcePositions x = new SourcePositions();
        int[] shares = {4, 5, 6, 7};
        for (int share : shares) {
            x.part(share);
        }
        x.scale(2);
        x.give(0, 0);
        x.give(1, 0);
        x.give(2, 1);
        x.give(3, NONE);
        States.rows(x, 0, 2, 0, 0);
        States.rows(x, 2, 2, 20, 0);
        States.rows(x, 3, 2, 30, 0);
        d.dueReads(x, 0, 0);
        for (int part = 0; part < 4; part++) {
            d.due("told(" + part + ", 2)", x.told(part, 2), 0);
        }
        x.row(1, 10, 0, true);
        d.dueReads(x, 0, 10);
        d.due("told(0, 2)", x.told(0, 2), 4);
        d.due("told(1, 2)", x.told(1, 2), -4);
        d.due("told(2, 2)", x.told(2, 2), 0);
        d.due("told(3, 2)", x.told(3, 2), 0);
    }

    static void deliveriesAreNumberedOverAllTasks(Due d) {
        SourcePositions x = equalParts(2, 1, 3);
        x.scale(2);
        d.dueReads(x, 1, 10);
        d.due("latest(3)", x.latest(3), 1);
        d.dueReads(x, 0, 0);
        d.due("latest(3)", x.latest(3), 2);
        d.dueReads(x, 1, 11);
        d.due("latest(3)", x.latest(3), 3);
    }

    static void lostIsNothingElse(Due d) {
        SourcePositions x = equalParts(2, 3, 2);
        x.lose(1, false);
        d.dueReads(x, 0, LOST);
        d.dueTold(x, 0, 0, -1, -3, 3, 0, 2, 0, 1, 0, NONE);
        d.dueTold(x, 1, 0, -1, 3, 3, 0, 2, 0, 1, 0, NONE);
        d.due("given(0)", x.given(0), 0);
        d.dueCounts(x, 2, 1, 0, 1, 0, 0, 0, 1, 0, 0);
        d.dueReads(x, 0, 10, 0);
    }

    static void lostComesAheadOfAside(Due d) {
        SourcePositions x = new SourcePositions();
        x.part(1);
        x.row(0, 5, 5, false);
        x.give(0, 0);
        x.lose(1, false);
        d.dueReads(x, 0, LOST);
        d.due("count(5)", x.count(5), 0);
        d.due("told(0, 0)", x.told(0, 0), 0);
        d.dueReads(x, 0, ASIDE);
    }

    static void lostComesAheadOfDouble(Due d) {
        SourcePositions x = new SourcePositions();
        x.part(1);
        x.row(0, 5, 5, true);
        x.row(0, 5, 6, true);
        x.give(0, 0);
        x.lose(2, false);
        d.dueReads(x, 0, 5, LOST);
        d.due("count(8)", x.count(8), 0);
        d.due("told(0, 0)", x.told(0, 0), 1);
        d.dueReads(x, 0, DOUBLE);
    }

    static void lostComesAheadOfTwice(Due d) {
        SourcePositions x = new SourcePositions();
        States.onePart(x, 1);
        x.lose(1, true);
        x.lose(1, false);
        d.dueReads(x, 0, LOST);
        d.due("count(9), both of that number are over", x.count(9), 0);
        d.dueReads(x, 0, 0);
        d.due("told(0, 0), the next one is not twice", x.told(0, 0), 1);
    }

    static void asideComesAheadOfDouble(Due d) {
        SourcePositions x = new SourcePositions();
        x.part(1);
        x.row(0, 5, 5, true);
        x.row(0, 5, 6, false);
        x.give(0, 0);
        d.dueReads(x, 0, 5, ASIDE);
        d.due("count(8)", x.count(8), 0);
        d.due("told(0, 1)", x.told(0, 1), 6);
    }

    static void asideIsPassedThoughTwice(Due d) {
        SourcePositions x = new SourcePositions();
        x.part(1);
        x.row(0, 5, 7, false);
        x.give(0, 0);
        x.lose(1, true);
        d.dueReads(x, 0, ASIDE, NONE);
        d.due("told(0, 0)", x.told(0, 0), 1);
        d.due("told(0, 1)", x.told(0, 1), 7);
        d.due("count(5)", x.count(5), 1);
        d.due("given(5)", x.given(5), 0);
        d.due("count(9)", x.count(9), 0);
    }

    static void doubleIsPassedThoughTwice(Due d) {
        SourcePositions x = new SourcePositions();
        x.part(1);
        x.row(0, 5, 5, true);
        x.row(0, 5, 7, true);
        x.give(0, 0);
        x.lose(2, true);
        d.dueReads(x, 0, 5, DOUBLE, NONE);
        d.due("told(0, 0)", x.told(0, 0), 2);
        d.due("told(0, 1)", x.told(0, 1), 7);
    }

    static void twiceStaysAndItsWaterToo(Due d) {
        SourcePositions x = new SourcePositions();
        x.part(1);
        x.row(0, 5, 7, true);
        x.give(0, 0);
        x.lose(1, true);
        d.dueReads(x, 0, 5);
        d.dueTold(x, 0, 0, -1, 0, 1, 0, 1, 0, 1, 0, NONE);
        d.due("given(5)", x.given(5), 1);
        d.dueReads(x, 0, DOUBLE);
        d.dueTold(x, 0, 1, 7, 0, 1, 0, 1, 0, 0, 0, NONE);
    }

    static void twiceAndTwiceAgain(Due d) {
        SourcePositions x = new SourcePositions();
        States.onePart(x, 2);
        x.lose(1, true);
        x.lose(2, true);
        x.lose(3, true);
        d.dueReads(x, 0, 0, DOUBLE, 1);
        d.due("told(0, 0)", x.told(0, 0), 1);
        d.dueReads(x, 0, DOUBLE, NONE);
    }

    static void aNumberGivenByAnotherPartIsDouble(Due d) {
        SourcePositions x = new SourcePositions();
        x.part(1);
        x.part(1);
        x.row(0, 255, 1, true);
        x.row(1, 255, 2, true);
        x.scale(2);
        d.dueReads(x, 1, 255);
        d.dueReads(x, 0, DOUBLE);
        d.due("told(0, 0)", x.told(0, 0), 1);
    }

    static void waterRisesOnly(Due d) {
        SourcePositions x = new SourcePositions();
        x.part(1);
        int[] times = {0, 5, 5, 4, 6, 100000, 0};
        int[] waters = {0, 5, 5, 5, 6, 100000, 100000};
        for (int i = 0; i < times.length; i++) {
            x.row(0, i, times[i], true);
        }
        x.give(0, 0);
        for (int i = 0; i < times.length; i++) {
            d.due("read no. " + (i + 1), x.read(0), i);
            d.due("told(0, 1)", x.told(0, 1), waters[i]);
        }
    }

    static void theHundredthAsideIsTheLastNoted(Due d) {
        SourcePositions x = new SourcePositions();
        for (int part = 0; part < 3; part++) {
            x.part(1);
            for (int i = 0; i < 34; i++) {
                x.row(part, part, part * 1000 + i, false);
            }
        }
        x.scale(1);
        d.dueSameReads(x, 0, 99, ASIDE);
        d.due("count(5)", x.count(5), 99);
        d.dueReads(x, 0, ASIDE);
        d.due("count(5)", x.count(5), 100);
        d.dueReads(x, 0, ASIDE, ASIDE, NONE);
        d.due("count(5)", x.count(5), 100);
        d.due("told(1, 0), passed", x.told(1, 0), 34);
        d.due("told(2, 1), passed", x.told(2, 1), 2033);
        d.due("aside(99, 0)", x.aside(99, 0), 0);
        d.due("aside(99, 1)", x.aside(99, 1), 33);
        d.due("aside(100, 0)", x.aside(100, 0), UNKNOWN);
    }

    static void aRefusedCallChangesNothing(Due d) {
        Twins.refused(d, "read(1)", States::fresh, x -> x.read(1), UNKNOWN);
        Twins.refused(d, "read(-1)", States::busy, x -> x.read(-1), UNKNOWN);
        Twins.refused(d, "read(3)", States::busy, x -> x.read(3), UNKNOWN);
        Twins.refused(d, "read(6)", States::full, x -> x.read(6), UNKNOWN);
        for (int far : FAR) {
            Twins.refused(d, "read(" + far + ")", States::busy, x -> x.read(far), UNKNOWN);
        }
    }

    static void noneChangesNothing(Due d) {
        Twins.refused(d, "read(0)", States::fresh, x -> x.read(0), NONE);
        Twins.refused(d, "read(2)", States::busy, x -> x.read(2), NONE);
    }
}
