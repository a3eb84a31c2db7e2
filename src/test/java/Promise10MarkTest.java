/** Promise 10, mark(): six MARKS at most, and what each of them keeps for good. */
public final class Promise10MarkTest implements Answers {
    public static void main(String[] args) {
        Due.run(Promise10MarkTest.class);
    }

    static void theSixthIsTheLast(Due d) {
        SourcePositions x = new SourcePositions();
        for (int i = 0; i < 6; i++) {
            d.due("count(2)", x.count(2), i);
            d.due("mark()", x.mark(), i);
        }
        d.due("mark(), the seventh", x.mark(), FULL);
        d.due("mark(), the eighth", x.mark(), FULL);
        d.due("count(2)", x.count(2), 6);
    }

    static void goingBackDoesNotMakeRoom(Due d) {
        SourcePositions x = new SourcePositions();
        for (int i = 0; i < 6; i++) {
            x.mark();
        }
        x.restore(0);
        d.due("mark()", x.mark(), FULL);
        x.restore(5);
        x.start(0);
        d.due("mark()", x.mark(), FULL);
    }

    static void aMarkWithoutParts(Due d) {
        SourcePositions x = new SourcePositions();
        d.due("mark()", x.mark(), 0);
        States.onePart(x, 2);
        x.read(0);
        d.due("restore(0)", x.restore(0), 1);
        d.dueTold(x, 0, 0, -1, 0, 1, NONE, 2, 0, 1, 0, NONE);
    }

    static void aMarkOfTwelveParts(Due d) {
        SourcePositions x = new SourcePositions();
        for (int part = 0; part < 12; part++) {
            x.part(1);
            States.rows(x, part, 3, 10 * part, 10 * part);
        }
        x.scale(6);
        x.read(5);
        d.due("told(5, 0)", x.told(5, 0), 1);
        x.read(5);
        d.due("told(11, 0)", x.told(11, 0), 1);
        d.due("mark()", x.mark(), 0);
        x.start(0);
        d.due("restore(0)", x.restore(0), 2);
        d.dueTold(x, 11, 1, 110, 0, 1, 5, 3, 0, 1, 0, NONE);
        d.dueTold(x, 5, 1, 50, 0, 1, 5, 3, 0, 1, 0, NONE);
    }

    static void eachOfSixKeepsItsOwn(Due d) {
        SourcePositions x = new SourcePositions();
        States.onePart(x, 6);
        for (int mark = 0; mark < 6; mark++) {
            x.mark();
            x.read(0);
        }
        int[] order = {5, 0, 3, 1, 4, 2, 5, 0};
        for (int mark : order) {
            d.due("restore(" + mark + ")", x.restore(mark), 1);
            d.due("told(0, 0)", x.told(0, 0), mark);
            d.due("told(0, 1)", x.told(0, 1), mark - 1);
            d.due("count(4)", x.count(4), mark);
        }
    }

    static void positionAtTheEndOfAFullPart(Due d) {
        SourcePositions x = new SourcePositions();
        States.onePart(x, 40);
        States.reads(x, 0, 40);
        x.mark();
        x.start(0);
        d.due("restore(0)", x.restore(0), 1);
        d.dueTold(x, 0, 40, 39, 0, 1, 0, 40, 0, 0, 0, NONE);
    }

    static void aHundredAsideAreKept(Due d) {
        SourcePositions x = new SourcePositions();
        for (int part = 0; part < 3; part++) {
            x.part(1);
            for (int i = 0; i < 34; i++) {
                x.row(part, 0, 0, false);
            }
        }
        x.scale(1);
        States.reads(x, 0, 102);
        x.mark();
        x.start(0);
        d.due("count(5)", x.count(5), 0);
        x.restore(0);
        d.due("count(5)", x.count(5), 100);
        d.due("aside(99, 0)", x.aside(99, 0), 0);
        d.due("aside(99, 1)", x.aside(99, 1), 33);
        d.due("aside(98, 0)", x.aside(98, 0), 2);
        d.due("aside(100, 0)", x.aside(100, 0), UNKNOWN);
    }

    static void aRefusedCallChangesNothing(Due d) {
        Twins.refused(d, "mark()", States::full, x -> x.mark(), FULL);
        Twins.refused(d, "mark()", States::busyWithSixMarks, x -> x.mark(), FULL);
    }

    static void aMarkChangesNothingElse(Due d) {
        SourcePositions x = new SourcePositions();
        States.busy(x);
        SourcePositions y = new SourcePositions();
        States.busy(y);
        d.due("mark()", x.mark(), 3);
        for (int part = 0; part < 6; part++) {
            for (int what = 0; what < 10; what++) {
                d.due("told(" + part + ", " + what + ")", x.told(part, what), y.told(part, what));
            }
        }
        for (int what = 0; what < 10; what++) {
            d.due("count(" + what + ")", x.count(what), y.count(what) + (what == 2 ? 1 : 0));
        }
        for (int i = 0; i < 20; i++) {
            d.due("read(" + i % 3 + ")", x.read(i % 3), y.read(i % 3));
        }
    }
}
