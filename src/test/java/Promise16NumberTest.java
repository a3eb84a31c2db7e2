/** Promise 16, number(): which exception it is at both ends of PARTS and places, and where no ROW is. */
public final class Promise16NumberTest implements Answers {
    public static void main(String[] args) {
        Due.run(Promise16NumberTest.class);
    }

    static void thePartBeforeTheFirst(Due d) {
        SourcePositions x = new SourcePositions();
        States.onePart(x, 1);
        d.dueThrow("number(-1, 0)", () -> x.number(-1, 0), INDEX);
        d.due("number(0, 0)", x.number(0, 0), 0);
    }

    static void thePartBehindTheLast(Due d) {
        SourcePositions x = new SourcePositions();
        d.dueThrow("number(0, 0)", () -> x.number(0, 0), INDEX);
        for (int i = 0; i < 12; i++) {
            int part = i;
            x.part(1);
            x.row(part, 100 + part, 0, true);
            d.due("number(" + part + ", 0)", x.number(part, 0), 100 + part);
            d.dueThrow("number(" + (part + 1) + ", 0)", () -> x.number(part + 1, 0), INDEX);
        }
    }

    static void thePlaceBeforeTheFirst(Due d) {
        SourcePositions x = new SourcePositions();
        States.onePart(x, 40);
        d.dueThrow("number(0, -1)", () -> x.number(0, -1), INDEX);
        d.due("number(0, 0)", x.number(0, 0), 0);
    }

    static void thePlaceBehindTheLast(Due d) {
        SourcePositions x = new SourcePositions();
        States.onePart(x, 40);
        d.due("number(0, 39)", x.number(0, 39), 39);
        d.dueThrow("number(0, 40)", () -> x.number(0, 40), INDEX);
    }

    static void noRowIsThere(Due d) {
        SourcePositions x = new SourcePositions();
        x.part(1);
        for (int i = 0; i < 40; i++) {
            int rows = i;
            d.dueThrow("number(0, " + rows + ")", () -> x.number(0, rows), NULL);
            d.dueThrow("number(0, 39) of " + rows, () -> x.number(0, 39), NULL);
            x.row(0, 200 + i, 0, true);
            d.due("number(0, " + rows + ")", x.number(0, rows), 200 + i);
        }
        d.due("number(0, 0)", x.number(0, 0), 200);
    }

    static void numbersFarOff(Due d) {
        SourcePositions x = new SourcePositions();
        States.onePart(x, 1);
        for (int far : FAR) {
            d.dueThrow("number(" + far + ", 0)", () -> x.number(far, 0), INDEX);
            d.dueThrow("number(0, " + far + ")", () -> x.number(0, far), INDEX);
        }
    }

    static void theIndexComesAheadOfNoRow(Due d) {
        SourcePositions x = new SourcePositions();
        x.part(1);
        d.dueThrow("number(0, 40)", () -> x.number(0, 40), INDEX);
        d.dueThrow("number(0, -1)", () -> x.number(0, -1), INDEX);
        d.dueThrow("number(1, 0)", () -> x.number(1, 0), INDEX);
        d.dueThrow("number(1, 39)", () -> x.number(1, 39), INDEX);
        d.dueThrow("number(-1, -1)", () -> x.number(-1, -1), INDEX);
    }

    static void numbersAtBothEnds(Due d) {
        SourcePositions x = new SourcePositions();
        x.part(1);
        x.row(0, 0, 0, false);
        x.row(0, 255, 0, false);
        d.due("number(0, 0)", x.number(0, 0), 0);
        d.due("number(0, 1)", x.number(0, 1), 255);
    }

    static void aRowThatWasPassedIsThereStill(Due d) {
        SourcePositions x = new SourcePositions();
        States.onePart(x, 2);
        x.end(0);
        States.reads(x, 0, 2);
        d.due("number(0, 0)", x.number(0, 0), 0);
        d.due("number(0, 1)", x.number(0, 1), 1);
    }

    static void behindASplitTheRowsAreInTheOther(Due d) {
        SourcePositions x = new SourcePositions();
        States.onePart(x, 40);
        x.split(0, 1);
        d.due("number(0, 0)", x.number(0, 0), 0);
        d.dueThrow("number(0, 1)", () -> x.number(0, 1), NULL);
        d.dueThrow("number(0, 39)", () -> x.number(0, 39), NULL);
        d.due("number(1, 0)", x.number(1, 0), 1);
        d.due("number(1, 38)", x.number(1, 38), 39);
        d.dueThrow("number(1, 39)", () -> x.number(1, 39), NULL);
    }

    static void behindClearThereIsNoPart(Due d) {
        SourcePositions x = new SourcePositions();
        States.onePart(x, 2);
        x.clear();
        d.dueThrow("number(0, 0)", () -> x.number(0, 0), INDEX);
        x.part(1);
        d.dueThrow("number(0, 0)", () -> x.number(0, 0), NULL);
    }

    static void aRefusedCallChangesNothing(Due d) {
        Twins.refused(d, "number(0, 0)", States::fresh, x -> x.number(0, 0), INDEX);
        Twins.refused(d, "number(-1, 0)", States::busy, x -> x.number(-1, 0), INDEX);
        Twins.refused(d, "number(6, 0)", States::busy, x -> x.number(6, 0), INDEX);
        Twins.refused(d, "number(0, -1)", States::busy, x -> x.number(0, -1), INDEX);
        Twins.refused(d, "number(0, 40)", States::busy, x -> x.number(0, 40), INDEX);
        Twins.refused(d, "number(0, 6)", States::busy, x -> x.number(0, 6), NULL);
        Twins.refused(d, "number(3, 0)", States::busy, x -> x.number(3, 0), NULL);
        Twins.refused(d, "number(0, 5)", States::busy, x -> x.number(0, 5), 15);
        for (int far : FAR) {
            Twins.refused(d, "number(" + far + ", 0)", States::busy, x -> x.number(far, 0), INDEX);
            Twins.refused(d, "number(0, " + far + ")", States::busy, x -> x.number(0, far), INDEX);
        }
    }
}
