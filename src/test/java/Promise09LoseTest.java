/** Promise 9, lose(): how far ahead at both ends, what was told so, and which delivery it is. */
public final class Promise09LoseTest implements Answers {
    public static void main(String[] args) {
        Due.run(Promise09LoseTest.class);
    }

    /** Forty ROWS, all with other NUMBERS; start(0) lets them be read, and be GIVEN, anew. */
    private static final int ROWS = 40;

    /** Reads that are due to be plain ones: from the first ROW again where the last was passed. */
    private static void plainReads(Due d, SourcePositions x, int times) {
        for (int i = 1; i <= times; i++) {
            if (x.told(0, 0) == ROWS) {
                x.start(0);
            }
            d.due("read of place " + x.told(0, 0), x.read(0), x.latest(1));
            d.due("told(0, 0)", x.told(0, 0), x.latest(1) + 1);
        }
    }

    static void oneIsTheLeast(Due d) {
        SourcePositions x = new SourcePositions();
        States.onePart(x, 3);
        d.due("lose(0, false)", x.lose(0, false), OUTSIDE);
        d.due("lose(0, true)", x.lose(0, true), OUTSIDE);
        d.due("lose(-1, false)", x.lose(-1, false), OUTSIDE);
        d.due("lose(-1, true)", x.lose(-1, true), OUTSIDE);
        d.due("lose(1, false)", x.lose(1, false), 1);
        d.dueReads(x, 0, LOST, 0);
        d.due("lose(1, true)", x.lose(1, true), 1);
        d.dueReads(x, 0, 1, DOUBLE, 2);
    }

    static void fiftyIsTheGreatest(Due d) {
        SourcePositions x = new SourcePositions();
        States.onePart(x, ROWS);
        d.due("lose(51, false)", x.lose(51, false), OUTSIDE);
        d.due("lose(51, true)", x.lose(51, true), OUTSIDE);
        d.due("lose(50, false)", x.lose(50, false), 1);
        plainReads(d, x, 49);
        d.dueReads(x, 0, LOST);
        d.due("latest(3)", x.latest(3), 50);
        plainReads(d, x, 3);
    }

    static void numbersFarOff(Due d) {
        SourcePositions x = new SourcePositions();
        for (int far : FAR) {
            d.due("lose(" + far + ", false)", x.lose(far, false), OUTSIDE);
            d.due("lose(" + far + ", true)", x.lose(far, true), OUTSIDE);
        }
        d.due("count(9)", x.count(9), 0);
    }

    static void eachDistanceIsThatDelivery(Due d) {
        for (int n = 1; n <= 50; n++) {
            SourcePositions x = new SourcePositions();
            States.onePart(x, ROWS);
            d.due("lose(" + n + ", false)", x.lose(n, false), 1);
            plainReads(d, x, n - 1);
            d.due("count(9) ahead of it", x.count(9), 1);
            x.start(0);
            d.dueReads(x, 0, LOST);
            d.due("latest(3)", x.latest(3), n);
            d.due("count(9) behind it", x.count(9), 0);
            plainReads(d, x, 2);
        }
    }

    static void eachDistanceIsThatDeliveryTwice(Due d) {
        for (int n = 1; n <= 50; n++) {
            SourcePositions x = new SourcePositions();
            States.onePart(x, ROWS);
            d.due("lose(" + n + ", true)", x.lose(n, true), 1);
            plainReads(d, x, n - 1);
            x.start(0);
            d.dueReads(x, 0, 0, DOUBLE);
            d.due("latest(3)", x.latest(3), n + 1);
            d.due("count(9)", x.count(9), 0);
            plainReads(d, x, 2);
        }
    }

    static void farAheadBehindManyDeliveries(Due d) {
        for (int before = 60; before <= 66; before++) {
            SourcePositions x = new SourcePositions();
            States.onePart(x, 1);
            for (int i = 0; i < before; i++) {
                x.start(0);
                x.read(0);
            }
            d.due("lose(50, false) behind " + before, x.lose(50, false), 1);
            d.due("lose(49, true) behind " + before, x.lose(49, true), 1);
            for (int i = 1; i <= 48; i++) {
                x.start(0);
                d.dueReads(x, 0, 0);
                d.due("told(0, 0)", x.told(0, 0), 1);
            }
            x.start(0);
            d.dueReads(x, 0, 0);
            d.due("told(0, 0), twice", x.told(0, 0), 0);
            d.dueReads(x, 0, LOST, DOUBLE);
            d.due("latest(3)", x.latest(3), before + 51);
        }
    }

    /** As many deliveries as the 512 calls of an object leave room for. */
    static void farAheadBehindMostDeliveries(Due d) {
        SourcePositions x = new SourcePositions();
        States.onePart(x, ROWS);
        for (int i = 0; i < 10; i++) {
            x.start(0);
            States.reads(x, 0, ROWS);
        }
        d.due("lose(50, false) behind 400", x.lose(50, false), 1);
        d.due("lose(49, true) behind 400", x.lose(49, true), 1);
        for (int i = 0; i < 48; i++) {
            if (i % ROWS == 0) {
                x.start(0);
            }
            d.dueReads(x, 0, i % ROWS);
        }
        d.dueReads(x, 0, 8);
        d.due("told(0, 0), twice", x.told(0, 0), 8);
        d.dueReads(x, 0, LOST, DOUBLE);
        d.due("latest(3)", x.latest(3), 451);
        d.due("count(9)", x.count(9), 0);
    }

    static void toldAgain(Due d) {
        SourcePositions x = new SourcePositions();
        d.due("lose(50, false)", x.lose(50, false), 1);
        d.due("lose(50, false) again", x.lose(50, false), 0);
        d.due("lose(50, true)", x.lose(50, true), 1);
        d.due("lose(50, true) again", x.lose(50, true), 0);
        d.due("lose(1, true)", x.lose(1, true), 1);
        d.due("lose(1, true) again", x.lose(1, true), 0);
        d.due("lose(1, false)", x.lose(1, false), 1);
        d.due("lose(1, false) again", x.lose(1, false), 0);
        d.due("count(9)", x.count(9), 4);
    }

    static void toldFromFurtherOff(Due d) {
        SourcePositions x = new SourcePositions();
        States.onePart(x, 4);
        x.lose(3, false);
        x.lose(3, true);
        d.dueReads(x, 0, 0);
        d.due("lose(2, false)", x.lose(2, false), 0);
        d.due("lose(2, true)", x.lose(2, true), 0);
        d.due("lose(3, false), the one behind it", x.lose(3, false), 1);
        d.dueReads(x, 0, 1);
        d.due("lose(1, false)", x.lose(1, false), 0);
        d.due("lose(1, true)", x.lose(1, true), 0);
        d.dueReads(x, 0, LOST);
        d.due("lose(1, false), the one told behind it", x.lose(1, false), 0);
        d.due("lose(1, true), that was told LOST only", x.lose(1, true), 1);
        d.dueReads(x, 0, LOST, 2, 3);
    }

    static void aNumberIsLostOnce(Due d) {
        SourcePositions x = new SourcePositions();
        States.onePart(x, 2);
        x.lose(1, false);
        d.dueReads(x, 0, LOST, 0, 1);
        d.due("count(7)", x.count(7), 1);
    }

    static void allThatCanBeTold(Due d) {
        SourcePositions x = new SourcePositions();
        States.onePart(x, 1);
        for (int n = 1; n <= 50; n++) {
            d.due("lose(" + n + ", false)", x.lose(n, false), 1);
            d.due("lose(" + n + ", true)", x.lose(n, true), 1);
        }
        d.due("count(9)", x.count(9), 100);
        d.dueSameReads(x, 0, 50, LOST);
        d.due("count(9)", x.count(9), 0);
        d.due("count(7)", x.count(7), 50);
        d.dueReads(x, 0, 0);
        d.due("told(0, 0), not twice", x.told(0, 0), 1);
    }

    static void theNextFiftyBehindADelivery(Due d) {
        SourcePositions x = new SourcePositions();
        States.onePart(x, 1);
        for (int n = 1; n <= 50; n++) {
            x.lose(n, false);
        }
        for (int i = 1; i <= 80; i++) {
            d.due("read no. " + i, x.read(0), LOST);
            d.due("lose(50, false) behind no. " + i, x.lose(50, false), 1);
            d.due("lose(49, false) behind no. " + i, x.lose(49, false), 0);
        }
        d.due("count(9)", x.count(9), 50);
    }

    static void noneAndRefusedReadsUseNothing(Due d) {
        SourcePositions x = new SourcePositions();
        States.onePart(x, 0);
        x.lose(1, false);
        d.dueReads(x, 0, NONE, NONE);
        d.dueReads(x, 1, UNKNOWN);
        d.due("count(9)", x.count(9), 1);
        x.row(0, 5, 5, true);
        d.dueReads(x, 0, LOST, 5);
    }

    static void goingBackTellsNothingAnew(Due d) {
        SourcePositions x = new SourcePositions();
        States.onePart(x, 3);
        x.lose(1, false);
        x.mark();
        d.dueReads(x, 0, LOST, 0);
        x.restore(0);
        d.due("count(9)", x.count(9), 0);
        d.dueReads(x, 0, 0);
        x.lose(1, false);
        x.restore(0);
        x.start(0);
        d.due("count(9)", x.count(9), 1);
        d.dueReads(x, 0, LOST, 0);
    }

    static void aRefusedCallChangesNothing(Due d) {
        int[] outside = {0, 51, -1};
        for (int n : outside) {
            Twins.refused(d, "lose(" + n + ", false)", States::busy, x -> x.lose(n, false), OUTSIDE);
            Twins.refused(d, "lose(" + n + ", true)", States::busy, x -> x.lose(n, true), OUTSIDE);
            Twins.refused(d, "lose(" + n + ", false)", States::fresh, x -> x.lose(n, false), OUTSIDE);
        }
        for (int far : FAR) {
            Twins.refused(d, "lose(" + far + ", false)", States::busy, x -> x.lose(far, false), OUTSIDE);
            Twins.refused(d, "lose(" + far + ", true)", States::busy, x -> x.lose(far, true), OUTSIDE);
        }
    }

    static void whatWasToldSoChangesNothing(Due d) {
        Twins.refused(d, "lose(1, true)", States::busy, x -> x.lose(1, true), 0);
        Twins.refused(d, "lose(50, false)", States::busy, x -> x.lose(50, false), 0);
        Twins.refused(d, "lose(50, true)", States::busy, x -> x.lose(50, true), 0);
    }
}
