/** Promise 1, a new object: what there is not yet. */
public final class Promise01NewObjectTest implements Answers {
    public static void main(String[] args) {
        Due.run(Promise01NewObjectTest.class);
    }

    static void thereAreNoParts(Due d) {
        SourcePositions x = new SourcePositions();
        d.due("count(0)", x.count(0), 0);
        d.due("row(0, 0, 0, true)", x.row(0, 0, 0, true), UNKNOWN);
        d.due("end(0)", x.end(0), UNKNOWN);
        d.due("split(0, 0)", x.split(0, 0), UNKNOWN);
        d.due("split(0, 1)", x.split(0, 1), UNKNOWN);
        d.due("give(0, 0)", x.give(0, 0), UNKNOWN);
        d.due("give(0, NONE)", x.give(0, NONE), UNKNOWN);
        d.due("told(0, 0)", x.told(0, 0), UNKNOWN);
        d.due("rate(0)", x.rate(0), UNKNOWN);
        d.dueThrow("number(0, 0)", () -> x.number(0, 0), INDEX);
        d.due("part(1), the first one", x.part(1), 0);
    }

    static void thereIsOneTask(Due d) {
        SourcePositions x = new SourcePositions();
        d.due("count(1)", x.count(1), 1);
        d.due("read(0)", x.read(0), NONE);
        d.due("read(1)", x.read(1), UNKNOWN);
        x.part(1);
        d.due("give(0, 1)", x.give(0, 1), UNKNOWN);
        d.due("give(0, 0)", x.give(0, 0), NONE);
    }

    static void thereAreNoMarks(Due d) {
        SourcePositions x = new SourcePositions();
        d.due("count(2)", x.count(2), 0);
        d.due("restore(0)", x.restore(0), UNKNOWN);
        d.due("mark(), the first one", x.mark(), 0);
    }

    static void nothingWasDelivered(Due d) {
        SourcePositions x = new SourcePositions();
        d.due("count(3)", x.count(3), 0);
        d.due("count(7)", x.count(7), 0);
        d.due("count(8)", x.count(8), 0);
        d.dueLatest(x, -1, -1, -1, -1, -1);
    }

    static void nothingIsGiven(Due d) {
        SourcePositions x = new SourcePositions();
        d.due("count(4)", x.count(4), 0);
        for (int number = 0; number <= 255; number++) {
            d.due("given(" + number + ")", x.given(number), 0);
        }
    }

    static void nothingIsAside(Due d) {
        SourcePositions x = new SourcePositions();
        d.due("count(5)", x.count(5), 0);
        d.due("aside(0, 0)", x.aside(0, 0), UNKNOWN);
        d.due("aside(0, 1)", x.aside(0, 1), UNKNOWN);
    }

    static void nothingIsToldOfDeliveriesToCome(Due d) {
        SourcePositions x = new SourcePositions();
        d.due("count(9)", x.count(9), 0);
        for (int n = 1; n <= 50; n++) {
            d.due("lose(" + n + ", false)", x.lose(n, false), 1);
            d.due("lose(" + n + ", true)", x.lose(n, true), 1);
        }
    }

    static void callsOverAllPartsWithoutParts(Due d) {
        SourcePositions x = new SourcePositions();
        d.due("water()", x.water(), -1);
        d.due("count(6)", x.count(6), 0);
        d.due("start(0)", x.start(0), 0);
        d.due("start(100000)", x.start(100000), 0);
        d.due("scale(6)", x.scale(6), 0);
        d.due("mark()", x.mark(), 0);
        d.due("restore(0)", x.restore(0), 0);
        d.due("clear()", x.clear(), 0);
    }

    static void anotherObjectIsNotTouched(Due d) {
        Twins.alike(d, "a new object beside a busy one", States::fresh, x -> States.busy(new SourcePositions()));
    }
}
