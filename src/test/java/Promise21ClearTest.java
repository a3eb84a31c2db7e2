/** Promise 21, clear(): all is as at the beginning, whatever there was. */
public final class Promise21ClearTest implements Answers {
    public static void main(String[] args) {
        Due.run(Promise21ClearTest.class);
    }

    static void withoutParts(Due d) {
        SourcePositions x = new SourcePositions();
        d.due("clear()", x.clear(), 0);
        x.mark();
        x.scale(6);
        x.lose(1, true);
        d.due("clear()", x.clear(), 0);
        d.dueCounts(x, 0, 1, 0, 0, 0, 0, 0, 0, 0, 0);
    }

    static void ofAllParts(Due d) {
        SourcePositions x = new SourcePositions();
        for (int part = 0; part < 13; part++) {
            x.part(1);
        }
        d.due("clear()", x.clear(), 12);
        d.due("clear() again", x.clear(), 0);
        d.due("part(1), room again", x.part(1), 0);
    }

    static void ofPartsThatAreDoneAndSplit(Due d) {
        SourcePositions x = new SourcePositions();
        States.busy(x);
        d.due("clear()", x.clear(), 6);
    }

    static void marksHaveRoomAgain(Due d) {
        SourcePositions x = new SourcePositions();
        States.full(x);
        x.clear();
        d.due("restore(0)", x.restore(0), UNKNOWN);
        for (int mark = 0; mark < 6; mark++) {
            d.due("mark()", x.mark(), mark);
        }
        d.due("mark()", x.mark(), FULL);
    }

    static void aMarkOfBeforeIsNotFoundBehindIt(Due d) {
        SourcePositions x = new SourcePositions();
        States.onePart(x, 3);
        States.reads(x, 0, 3);
        x.mark();
        x.clear();
        x.mark();
        States.onePart(x, 3);
        States.reads(x, 0, 2);
        d.due("restore(0)", x.restore(0), 1);
        d.dueTold(x, 0, 0, -1, 0, 1, NONE, 3, 0, 1, 0, NONE);
        d.due("count(4)", x.count(4), 0);
    }

    static void aNewObjectIsNoOther(Due d) {
        Twins.alike(d, "a new object, and a clear() of it", States::fresh, x -> x.clear());
        Twins.alike(d, "a new object, and a busy one behind clear()", States::fresh, x -> {
            States.busy(x);
            x.clear();
        });
        Twins.alike(d, "a new object, and a full one behind clear()", States::fresh, x -> {
            States.full(x);
            x.clear();
        });
    }

    static void whatComesBehindItIsAsFromTheBeginning(Due d) {
        Twins.alike(d, "a busy object, and one behind clear()", States::busy, x -> {
            States.full(x);
            x.clear();
            States.busy(x);
        });
        Twins.alike(d, "a full object, and one behind clear()", States::full, x -> {
            States.busy(x);
            x.clear();
            States.full(x);
        });
    }

    static void deliveriesBeginAtOneAgain(Due d) {
        SourcePositions x = new SourcePositions();
        States.onePart(x, 3);
        States.reads(x, 0, 3);
        x.lose(2, false);
        x.clear();
        States.onePart(x, 3);
        d.dueReads(x, 0, 0);
        d.due("latest(3)", x.latest(3), 1);
        d.dueReads(x, 0, 1, 2, NONE);
    }

    static void allThatWasToldOfDeliveriesIsGone(Due d) {
        SourcePositions x = new SourcePositions();
        States.onePart(x, 1);
        for (int n = 1; n <= 20; n++) {
            x.start(0);
            x.read(0);
        }
        for (int n = 1; n <= 50; n++) {
            x.lose(n, false);
            x.lose(n, true);
        }
        x.clear();
        d.due("count(9)", x.count(9), 0);
        States.onePart(x, 1);
        for (int n = 1; n <= 72; n++) {
            x.start(0);
            d.dueReads(x, 0, 0);
            d.due("told(0, 0)", x.told(0, 0), 1);
        }
        for (int n = 1; n <= 50; n++) {
            d.due("lose(" + n + ", false)", x.lose(n, false), 1);
            d.due("lose(" + n + ", true)", x.lose(n, true), 1);
        }
    }
}
