/** Promises 10 to 13 and 21: MARKS, START, SCALE and clear(). */
public final class MarksTest {
    private static final Due D = new Due();

    public static void main(String[] args) {
        marks();
        restores();
        restoreOfLaterParts();
        restoreOfReaders();
        restoreBehindASplit();
        restoreOfFindings();
        starts();
        scales();
        startOfFullParts();
        clears();
        clearForgetsWhatWasTold();
        D.finish();
    }

    private static void marks() {
        D.promise(10, "mark");
        SourcePositions x = new SourcePositions();
        x.part(1);
        for (int i = 0; i < 8; i++) {
            x.row(0, i, 10 * i, true);
        }
        x.give(0, 0);
        for (int i = 0; i < 6; i++) {
            D.due("mark()", x.mark(), i);
            x.read(0);
        }
        D.due("mark() as the seventh", x.mark(), SourcePositions.FULL);
        D.due("count(2)", x.count(2), 6);
        for (int i = 5; i >= 0; i--) {
            D.due("restore(" + i + ")", x.restore(i), 1);
            D.due("position", x.told(0, 0), i);
            D.due("water", x.told(0, 1), 10 * (i - 1) < 0 ? -1 : 10 * (i - 1));
            D.due("numbers given", x.count(4), i);
        }
        D.due("mark() after going back", x.mark(), SourcePositions.FULL);
        x.restore(3);
        D.due("restore(5) is as before", x.restore(5), 1);
        D.due("position", x.told(0, 0), 5);
    }

    private static void restores() {
        D.promise(11, "restore");
        SourcePositions x = new SourcePositions();
        x.part(2);
        x.part(1);
        x.part(1);
        for (int i = 0; i < 4; i++) {
            x.row(0, i, 10 * i, i != 1);
            x.row(1, 10 + i, 10 * i, true);
        }
        x.give(0, 0);
        x.give(1, 0);
        D.dueReads(x, 0, 0, 10);
        x.mark();
        D.due("restore(-1)", x.restore(-1), SourcePositions.UNKNOWN);
        D.due("restore(1)", x.restore(1), SourcePositions.UNKNOWN);
        D.due("restore(6)", x.restore(6), SourcePositions.UNKNOWN);
        D.due("restore(0), nothing moved", x.restore(0), 0);
        D.dueTold(x, 0, 1, 0, 1, 2, 0, 4, 0, 1, 0, -1);
        D.dueTold(x, 1, 1, 0, -1, 1, 0, 4, 0, 1, 0, -1);
        x.lose(1, true);
        D.dueReads(x, 0, SourcePositions.ASIDE, 2, 11);
        x.give(0, -1);
        x.end(0);
        x.row(1, 99, 99, true);
        D.due("restore(0)", x.restore(0), 2);
        D.dueTold(x, 0, 1, 0, 1, 2, 0, 4, 1, 1, 0, -1);
        D.dueTold(x, 1, 1, 0, -1, 1, 0, 5, 0, 1, 0, -1);
        D.due("given(0)", x.given(0), 1);
        D.due("given(10)", x.given(10), 1);
        D.due("given(2)", x.given(2), 0);
        D.due("count(4)", x.count(4), 2);
        D.due("count(5)", x.count(5), 0);
        D.due("deliveries stay", x.count(3), 5);
        D.dueReads(x, 0, SourcePositions.ASIDE);
        D.due("aside(0, 1)", x.aside(0, 1), 1);
        x.mark();
        x.start(0);
        D.due("restore(1)", x.restore(1), 2);
        D.due("aside(0, 0) out of the mark", x.aside(0, 0), 0);
        D.due("aside(0, 1) out of the mark", x.aside(0, 1), 1);
        D.due("latest(3) of the next", x.read(0) == SourcePositions.NONE ? 0 : x.latest(3), 7);
    }

    private static void restoreOfLaterParts() {
        SourcePositions x = new SourcePositions();
        x.mark();
        x.part(3);
        x.part(2);
        for (int i = 0; i < 3; i++) {
            x.row(0, i, 10 + i, true);
        }
        x.row(1, 20, 20, true);
        x.give(0, 0);
        x.give(1, 0);
        D.dueReads(x, 0, 0);
        D.due("restore(0)", x.restore(0), 1);
        D.dueTold(x, 0, 0, -1, 0, 3, -1, 3, 0, 1, 0, -1);
        D.dueTold(x, 1, 0, -1, 0, 2, -1, 1, 0, 1, 0, -1);
        D.due("count(0)", x.count(0), 2);
        D.due("given(0)", x.given(0), 0);
    }

    private static void restoreOfReaders() {
        SourcePositions x = new SourcePositions();
        for (int i = 0; i < 4; i++) {
            x.part(1);
        }
        x.scale(4);
        x.mark();
        x.scale(2);
        D.due("restore(0)", x.restore(0), 0);
        D.due("tasks stay", x.count(1), 2);
        for (int i = 0; i < 4; i++) {
            D.due("reader of " + i, x.told(i, 4), i < 2 ? i : -1);
        }
        x.scale(6);
        x.restore(0);
        for (int i = 0; i < 4; i++) {
            D.due("reader of " + i + ", a task again", x.told(i, 4), i);
        }
    }

    private static void restoreBehindASplit() {
        SourcePositions x = new SourcePositions();
        x.part(1);
        for (int i = 0; i < 5; i++) {
            x.row(0, i, i, true);
        }
        x.give(0, 0);
        D.dueReads(x, 0, 0, 1, 2, 3);
        x.mark();
        x.start(0);
        D.due("split(0, 2)", x.split(0, 2), 1);
        D.due("restore(0)", x.restore(0), 1);
        D.dueTold(x, 0, 4, 3, 0, 1, 0, 2, 1, 0, 1, -1);
        D.dueReads(x, 0, SourcePositions.NONE);
        D.due("split(0, 1)", x.split(0, 1), SourcePositions.STATE);
        D.due("split(0, 4)", x.split(0, 4), SourcePositions.UNKNOWN);
        x.give(1, 0);
        D.dueReads(x, 0, SourcePositions.DOUBLE, SourcePositions.DOUBLE, 4);
        D.due("start(0)", x.start(0), 2);
        D.due("told(0, 0)", x.told(0, 0), 0);
    }

    private static void restoreOfFindings() {
        SourcePositions x = new SourcePositions();
        x.part(1);
        x.part(1);
        x.row(0, 255, 1, true);
        x.row(0, 0, 2, true);
        x.row(1, 3, 3, true);
        x.row(1, 3, 4, false);
        x.row(0, 4, 5, false);
        x.scale(2);
        D.dueReads(x, 0, 255, 0);
        D.dueReads(x, 1, 3, SourcePositions.ASIDE);
        x.mark();
        D.due("start(0)", x.start(0), 2);
        D.due("given(255) behind start()", x.given(255), 0);
        D.dueReads(x, 0, 255, 0, SourcePositions.ASIDE);
        D.due("aside(0, 0) behind start()", x.aside(0, 0), 0);
        D.due("restore(0)", x.restore(0), 2);
        D.due("aside(0, 0)", x.aside(0, 0), 1);
        D.due("aside(0, 1)", x.aside(0, 1), 1);
        D.due("aside(1, 0)", x.aside(1, 0), SourcePositions.UNKNOWN);
        x.start(3);
        D.due("restore(0)", x.restore(0), 1);
        D.due("given(255)", x.given(255), 1);
        D.due("given(0)", x.given(0), 1);
        D.due("given(3)", x.given(3), 1);
        D.due("count(4)", x.count(4), 3);
        // What is read after going back must not reach the mark.
        D.dueReads(x, 0, SourcePositions.ASIDE);
        D.due("restore(0)", x.restore(0), 1);
        D.due("count(5)", x.count(5), 1);
    }

    private static void starts() {
        D.promise(12, "start");
        SourcePositions x = new SourcePositions();
        D.due("start(-1)", x.start(-1), SourcePositions.OUTSIDE);
        D.due("start(100001)", x.start(100001), SourcePositions.OUTSIDE);
        D.due("start(0) without parts", x.start(0), 0);
        int[] times = {50, 20, 70, 60};
        x.part(3);
        x.part(2);
        x.part(1);
        for (int i = 0; i < times.length; i++) {
            x.row(0, i, times[i], i != 0);
            x.row(1, 10 + i, times[i] - 20, true);
        }
        x.give(0, 0);
        x.give(1, 0);
        D.dueReads(x, 0, SourcePositions.ASIDE, 10);
        D.due("start(100001)", x.start(100001), SourcePositions.OUTSIDE);
        D.due("count(4) after the refusal", x.count(4), 1);
        D.due("start(51)", x.start(51), 1);
        D.dueTold(x, 0, 2, -1, 0, 3, 0, 4, 0, 1, 0, -1);
        D.dueTold(x, 1, 4, -1, 0, 2, 0, 4, 0, 0, 0, -1);
        D.dueTold(x, 2, 0, -1, 0, 1, -1, 0, 0, 0, 0, -1);
        D.due("count(4)", x.count(4), 0);
        D.due("count(5)", x.count(5), 0);
        D.due("given(10)", x.given(10), 0);
        D.due("aside(0, 0)", x.aside(0, 0), SourcePositions.UNKNOWN);
        D.due("start(50)", x.start(50), 2);
        D.due("position 0", x.told(0, 0), 0);
        D.due("position 1", x.told(1, 0), 2);
        D.due("start(100000)", x.start(100000), 0);
        D.due("position 0", x.told(0, 0), 4);
        D.due("row from then on", x.row(0, 9, 5, true), 5);
        D.dueReads(x, 0, 9);
        D.due("deliveries stay", x.count(3), 3);
        D.due("start(0)", x.start(0), 2);
        D.due("position 0", x.told(0, 0), 0);
    }

    private static void startOfFullParts() {
        SourcePositions x = new SourcePositions();
        for (int part = 0; part < 12; part++) {
            x.part(1);
        }
        for (int i = 0; i < 40; i++) {
            x.row(11, i, i, true);
        }
        x.give(11, 0);
        D.due("start(39)", x.start(39), 1);
        D.due("told(11, 0)", x.told(11, 0), 39);
        D.due("start(40)", x.start(40), 0);
        D.dueTold(x, 11, 40, -1, 0, 1, 0, 40, 0, 0, 0, -1);
        D.dueReads(x, 0, SourcePositions.NONE);
        D.due("split(11, 40)", x.split(11, 40), SourcePositions.UNKNOWN);
        D.due("rate(11)", x.rate(11), 1000);
        D.due("mark()", x.mark(), 0);
        D.due("start(0)", x.start(0), 1);
        D.due("restore(0)", x.restore(0), 1);
        D.due("told(11, 0)", x.told(11, 0), 40);
        D.due("water()", x.water(), -1);
    }

    private static void scales() {
        D.promise(13, "scale");
        SourcePositions x = new SourcePositions();
        int[] outside = {0, -1, 7, Integer.MIN_VALUE, Integer.MAX_VALUE};
        for (int n : outside) {
            D.due("scale(" + n + ")", x.scale(n), SourcePositions.OUTSIDE);
        }
        D.due("count(1) after refusals", x.count(1), 1);
        D.due("scale(6) without parts", x.scale(6), 0);
        D.due("count(1)", x.count(1), 6);
        D.due("read(5)", x.read(5), SourcePositions.NONE);
        D.due("read(6)", x.read(6), SourcePositions.UNKNOWN);
        for (int i = 0; i < 12; i++) {
            x.part(1);
        }
        x.give(4, 5);
        x.end(4);
        D.due("told(4, 4), done", x.told(4, 4), 5);
        x.row(5, 1, 1, true);
        x.end(5);
        D.due("scale(3)", x.scale(3), 11);
        int[] readers = {0, 1, 2, 0, -1, 1, 2, 0, 1, 2, 0, 1};
        for (int i = 0; i < 12; i++) {
            D.due("reader of " + i, x.told(i, 4), readers[i]);
        }
        D.due("scale(0)", x.scale(0), SourcePositions.OUTSIDE);
        D.due("told(3, 4) after the refusal", x.told(3, 4), 0);
        D.due("scale(1)", x.scale(1), 11);
        for (int i = 0; i < 12; i++) {
            D.due("reader of " + i, x.told(i, 4), i == 4 ? -1 : 0);
        }
        D.dueReads(x, 0, 1);
        D.due("scale(2)", x.scale(2), 10);
        D.due("told(5, 4), done now", x.told(5, 4), -1);
        D.due("told(3, 4)", x.told(3, 4), 1);
        D.due("told(6, 4)", x.told(6, 4), 0);
    }

    private static void clears() {
        D.promise(21, "clear");
        SourcePositions x = new SourcePositions();
        for (int i = 0; i < 3; i++) {
            x.part(5);
            x.row(i, i, i, i != 1);
            x.row(i, i, i, true);
        }
        x.end(2);
        x.split(0, 1);
        x.scale(2);
        x.lose(2, false);
        x.lose(5, true);
        D.dueReads(x, 0, 0, SourcePositions.LOST);
        // Part 3, split off part 0, has the greater credit by then, and the number 0 too.
        D.dueReads(x, 1, SourcePositions.ASIDE, SourcePositions.DOUBLE);
        x.mark();
        D.dueCounts(x, 4, 2, 1, 4, 1, 1, 1, 1, 1, 1);
        D.due("clear()", x.clear(), 4);
        D.dueCounts(x, 0, 1, 0, 0, 0, 0, 0, 0, 0, 0);
        D.dueLatest(x, -1, -1, -1, -1, -1);
        D.due("water()", x.water(), -1);
        D.due("given(0)", x.given(0), 0);
        D.due("aside(0, 0)", x.aside(0, 0), SourcePositions.UNKNOWN);
        D.due("restore(0)", x.restore(0), SourcePositions.UNKNOWN);
        D.due("read(1)", x.read(1), SourcePositions.UNKNOWN);
        D.due("clear() again", x.clear(), 0);
        for (int i = 0; i < 4; i++) {
            D.due("part(1)", x.part(1), i);
            D.dueTold(x, i, 0, -1, 0, 1, -1, 0, 0, 0, 0, -1);
        }
        D.due("mark()", x.mark(), 0);
        x.give(0, 0);
        for (int i = 0; i < 8; i++) {
            x.row(0, i, i, true);
        }
        D.dueReads(x, 0, 0, 1, 2, 3, 4, 5, 6, 7, SourcePositions.NONE);
        D.due("restore(0)", x.restore(0), 1);
    }

    private static void clearForgetsWhatWasTold() {
        SourcePositions x = new SourcePositions();
        readAgain(x, 10);
        for (int n = 1; n <= 50; n++) {
            x.lose(n, false);
            x.lose(n, true);
        }
        x.start(0);
        D.dueReads(x, 0, SourcePositions.LOST);
        D.due("count(7)", x.count(7), 1);
        D.due("clear()", x.clear(), 1);
        D.dueCounts(x, 0, 1, 0, 0, 0, 0, 0, 0, 0, 0);
        readAgain(x, 62);
        D.due("count(3)", x.count(3), 62);
        D.due("count(8), none stayed for TWICE", x.count(8), 0);
        for (int n = 1; n <= 50; n++) {
            D.due("lose(" + n + ", false)", x.lose(n, false), 1);
        }
        x.clear();
        for (int n = 1; n <= 50; n++) {
            D.due("lose(" + n + ", false) behind clear()", x.lose(n, false), 1);
        }
    }

    /** Reads the one row of a PART that there is not yet, so many times. */
    private static void readAgain(SourcePositions x, int times) {
        x.part(1);
        x.row(0, 9, 9, true);
        x.give(0, 0);
        for (int n = 1; n <= times; n++) {
            x.start(0);
            D.due("read no. " + n, x.read(0), 9);
            D.due("position behind read no. " + n, x.told(0, 0), 1);
        }
    }
}
