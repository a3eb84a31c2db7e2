/** Promises 6 to 9, 15 and 17 to 20: who reads, and what comes of deliveries. */
public final class ReadingsTest {
    private static final Due D = new Due();

    public static void main(String[] args) {
        gives();
        readsByShares();
        readsOfReadyOnly();
        outcomes();
        latest();
        loses();
        losesFarAhead();
        given();
        asides();
        asideLimit();
        rates();
        waters();
        counts();
        D.finish();
    }

    /** A PART with SOUND rows whose NUMBERS go up from the first, each with ten times its NUMBER as TIME. */
    private static int partWith(SourcePositions x, int share, int first, int rows) {
        int part = x.part(share);
        for (int i = 0; i < rows; i++) {
            x.row(part, first + i, 10 * (first + i), true);
        }
        return part;
    }

    private static void gives() {
        D.promise(6, "give");
        SourcePositions x = new SourcePositions();
        D.due("give(0, 0) without parts", x.give(0, 0), SourcePositions.UNKNOWN);
        partWith(x, 1, 0, 2);
        D.due("give(-1, 0)", x.give(-1, 0), SourcePositions.UNKNOWN);
        D.due("give(1, 0)", x.give(1, 0), SourcePositions.UNKNOWN);
        D.due("give(0, 1)", x.give(0, 1), SourcePositions.UNKNOWN);
        D.due("give(0, -2)", x.give(0, -2), SourcePositions.UNKNOWN);
        D.due("told(0, 4) after refusals", x.told(0, 4), -1);
        D.due("give(0, NONE) of none", x.give(0, -1), -1);
        x.scale(3);
        D.due("give(0, 2)", x.give(0, 2), 0);
        D.due("give(0, 1)", x.give(0, 1), 2);
        D.due("give(0, 3)", x.give(0, 3), SourcePositions.UNKNOWN);
        D.due("read(2)", x.read(2), SourcePositions.NONE);
        D.due("read(1)", x.read(1), 0);
        D.due("give(0, NONE)", x.give(0, -1), 1);
        D.due("read(1) of none", x.read(1), SourcePositions.NONE);
        D.due("give(0, 0)", x.give(0, 0), -1);
        D.due("read(0)", x.read(0), 1);
        D.due("give(0, 1) at its end, but not ended", x.give(0, 1), 0);
        x.end(0);
        D.due("give(0, 0) when done", x.give(0, 0), SourcePositions.STATE);
        D.due("give(0, NONE) when done", x.give(0, -1), SourcePositions.STATE);
        D.due("give(0, 3) when done", x.give(0, 3), SourcePositions.UNKNOWN);
        D.due("told(0, 4) after refusals", x.told(0, 4), 1);
    }

    private static void readsByShares() {
        D.promise(7, "read");
        SourcePositions x = new SourcePositions();
        partWith(x, 2, 0, 9);
        partWith(x, 2, 20, 9);
        partWith(x, 1, 40, 9);
        x.give(0, 0);
        x.give(1, 0);
        x.give(2, 0);
        // Credits before the choice: 2 2 1, -1 4 2, 1 1 3, 3 3 -1, 0 5 0: then all are 0 again.
        D.dueReads(x, 0, 0, 20, 40, 1, 21);
        D.due("credit 0", x.told(0, 2), 0);
        D.due("credit 1", x.told(1, 2), 0);
        D.due("credit 2", x.told(2, 2), 0);
        D.dueReads(x, 0, 2, 22, 41, 3, 23);
        D.due("read(-1)", x.read(-1), SourcePositions.UNKNOWN);
        D.due("read(1)", x.read(1), SourcePositions.UNKNOWN);
        D.due("read(6)", x.read(6), SourcePositions.UNKNOWN);
        D.due("deliveries", x.count(3), 10);
    }

    private static void readsOfReadyOnly() {
        SourcePositions x = new SourcePositions();
        partWith(x, 9, 0, 1);
        partWith(x, 1, 20, 3);
        partWith(x, 5, 40, 3);
        x.scale(2);
        x.give(0, 0);
        x.give(1, 0);
        x.give(2, 1);
        D.dueReads(x, 0, 0);
        D.due("credit 0", x.told(0, 2), -1);
        D.due("credit 1", x.told(1, 2), 1);
        D.due("credit 2 of another task", x.told(2, 2), 0);
        D.dueReads(x, 0, 20);
        D.due("credit 0, not ready", x.told(0, 2), -1);
        D.due("credit 1 alone", x.told(1, 2), 1);
        D.dueReads(x, 1, 40, 41, 42, SourcePositions.NONE);
        D.due("deliveries without that of NONE", x.count(3), 5);
        D.due("row at the position", x.row(0, 1, 1, true), 2);
        D.dueReads(x, 0, 1);
        D.due("credit 0", x.told(0, 2), -2);
        D.due("credit 1", x.told(1, 2), 2);
    }

    private static void outcomes() {
        SourcePositions x = new SourcePositions();
        x.part(3);
        x.row(0, 5, 30, true);
        x.row(0, 6, 80, false);
        x.row(0, 5, 60, true);
        x.row(0, 7, 90, true);
        x.give(0, 0);
        x.lose(1, false);
        x.lose(1, true);
        x.lose(3, true);
        x.lose(4, true);
        x.lose(5, true);
        D.due("read, lost and twice", x.read(0), SourcePositions.LOST);
        D.dueTold(x, 0, 0, -1, 0, 3, 0, 4, 0, 1, 0, -1);
        D.due("given(5) after the loss", x.given(5), 0);
        D.due("read again", x.read(0), 5);
        D.due("read, not sound, twice", x.read(0), SourcePositions.ASIDE);
        D.due("position behind it", x.told(0, 0), 2);
        D.due("water behind it", x.told(0, 1), 80);
        D.due("given(6)", x.given(6), 0);
        D.due("read, double, twice", x.read(0), SourcePositions.DOUBLE);
        D.due("position behind it", x.told(0, 0), 3);
        D.due("water does not fall", x.told(0, 1), 80);
        D.due("read, given, twice", x.read(0), 7);
        D.due("position stays", x.told(0, 0), 3);
        D.due("water stays", x.told(0, 1), 80);
        D.due("given(7)", x.given(7), 1);
        D.due("the second one", x.read(0), SourcePositions.DOUBLE);
        D.due("water at last", x.told(0, 1), 90);
        D.due("read, none", x.read(0), SourcePositions.NONE);
        D.dueCounts(x, 1, 1, 0, 6, 2, 1, 0, 1, 2, 0);
        // The same NUMBER in another PART is DOUBLE; a row not SOUND is ASIDE even if its NUMBER was GIVEN.
        x.part(1);
        x.row(1, 7, 3, false);
        x.row(1, 7, 4, true);
        x.give(1, 0);
        D.dueReads(x, 0, SourcePositions.ASIDE, SourcePositions.DOUBLE);
    }

    private static void latest() {
        D.promise(8, "latest");
        SourcePositions x = new SourcePositions();
        D.due("latest(-1) before any", x.latest(-1), SourcePositions.OUTSIDE);
        D.due("latest(5) before any", x.latest(5), SourcePositions.OUTSIDE);
        x.read(0);
        D.dueLatest(x, -1, -1, -1, -1, -1);
        partWith(x, 2, 1, 2);
        partWith(x, 3, 11, 2);
        x.give(0, 0);
        x.give(1, 0);
        D.dueReads(x, 0, 11);
        D.dueLatest(x, 1, 0, 110, 1, -2);
        x.lose(1, false);
        D.dueReads(x, 0, SourcePositions.LOST);
        D.dueLatest(x, 0, 0, 10, 2, -1);
        D.dueReads(x, 0, 12);
        D.dueLatest(x, 1, 1, 120, 3, -1);
        x.give(0, -1);
        D.due("read, none", x.read(0), SourcePositions.NONE);
        D.due("read, refused", x.read(1), SourcePositions.UNKNOWN);
        x.mark();
        x.start(0);
        D.dueLatest(x, 1, 1, 120, 3, -1);
        x.split(1, 1);
        x.restore(0);
        D.dueLatest(x, 1, 1, 120, 3, -1);
        D.due("latest(-1)", x.latest(-1), SourcePositions.OUTSIDE);
        D.due("latest(5)", x.latest(5), SourcePositions.OUTSIDE);
    }

    private static void loses() {
        D.promise(9, "lose");
        SourcePositions x = new SourcePositions();
        int[] outside = {0, -1, 51, Integer.MIN_VALUE, Integer.MAX_VALUE};
        for (int n : outside) {
            D.due("lose(" + n + ", false)", x.lose(n, false), SourcePositions.OUTSIDE);
            D.due("lose(" + n + ", true)", x.lose(n, true), SourcePositions.OUTSIDE);
        }
        D.due("count(9) after refusals", x.count(9), 0);
        D.due("lose(2, false)", x.lose(2, false), 1);
        D.due("lose(2, true)", x.lose(2, true), 1);
        D.due("lose(2, false) again", x.lose(2, false), 0);
        D.due("lose(2, true) again", x.lose(2, true), 0);
        D.due("count(9)", x.count(9), 2);
        partWith(x, 1, 0, 3);
        x.give(0, 0);
        D.dueReads(x, 0, 0);
        D.due("lose(1, false), told as 2 ahead", x.lose(1, false), 0);
        D.due("lose(1, true), told as 2 ahead", x.lose(1, true), 0);
        D.due("count(9) before it", x.count(9), 2);
        D.dueReads(x, 0, SourcePositions.LOST);
        D.due("count(9) behind it", x.count(9), 0);
        D.dueReads(x, 0, 1, 2);
        x.lose(1, false);
        D.due("read, none", x.read(0), SourcePositions.NONE);
        D.due("count(9), not used by NONE", x.count(9), 1);
        x.start(0);
        D.due("count(9), not touched by start()", x.count(9), 1);
        D.dueReads(x, 0, SourcePositions.LOST, 0);
        // To go back does not make a number come again.
        x.mark();
        x.lose(1, false);
        D.dueReads(x, 0, SourcePositions.LOST);
        x.restore(0);
        D.dueReads(x, 0, 1, 2);
        D.due("deliveries", x.count(3), 9);
    }

    private static void losesFarAhead() {
        SourcePositions x = new SourcePositions();
        x.part(1);
        x.row(0, 9, 9, true);
        x.give(0, 0);
        for (int n = 1; n <= 50; n++) {
            D.due("lose(" + n + ", false)", x.lose(n, false), 1);
        }
        D.due("lose(50, true)", x.lose(50, true), 1);
        D.due("count(9)", x.count(9), 51);
        for (int n = 1; n <= 49; n++) {
            D.due("read no. " + n, x.read(0), SourcePositions.LOST);
        }
        D.due("lose(50, false), no. 99", x.lose(50, false), 1);
        D.due("read no. 50", x.read(0), SourcePositions.LOST);
        D.due("count(9)", x.count(9), 1);
        for (int n = 51; n <= 98; n++) {
            x.start(0);
            D.due("read no. " + n, x.read(0), 9);
        }
        x.start(0);
        D.dueReads(x, 0, SourcePositions.LOST, 9);
        D.due("deliveries", x.count(3), 100);
        D.due("deliveries lost", x.count(7), 51);
        D.due("count(9)", x.count(9), 0);
    }

    private static void given() {
        D.promise(15, "given");
        SourcePositions x = new SourcePositions();
        x.part(1);
        x.row(0, 0, 0, true);
        x.row(0, 255, 0, true);
        x.row(0, 128, 0, false);
        x.give(0, 0);
        D.due("given(-1)", x.given(-1), SourcePositions.OUTSIDE);
        D.due("given(256)", x.given(256), SourcePositions.OUTSIDE);
        D.due("given(0) before", x.given(0), 0);
        D.dueReads(x, 0, 0, 255, SourcePositions.ASIDE);
        for (int number = 0; number < 256; number++) {
            D.due("given(" + number + ")", x.given(number), number == 0 || number == 255 ? 1 : 0);
        }
    }

    private static void asides() {
        D.promise(17, "aside");
        SourcePositions x = new SourcePositions();
        D.due("aside(0, 0) of none", x.aside(0, 0), SourcePositions.UNKNOWN);
        D.due("aside(0, 2) of none", x.aside(0, 2), SourcePositions.UNKNOWN);
        partWith(x, 1, 0, 2);
        x.part(1);
        x.row(1, 20, 5, true);
        x.row(1, 21, 6, false);
        x.row(0, 22, 7, false);
        x.scale(2);
        D.dueReads(x, 1, 20, SourcePositions.ASIDE);
        D.dueReads(x, 0, 0, 1, SourcePositions.ASIDE);
        D.due("aside(0, 0)", x.aside(0, 0), 1);
        D.due("aside(0, 1)", x.aside(0, 1), 1);
        D.due("aside(1, 0)", x.aside(1, 0), 0);
        D.due("aside(1, 1)", x.aside(1, 1), 2);
        D.due("aside(2, 0)", x.aside(2, 0), SourcePositions.UNKNOWN);
        D.due("aside(-1, 0)", x.aside(-1, 0), SourcePositions.UNKNOWN);
        D.due("aside(100, 0)", x.aside(100, 0), SourcePositions.UNKNOWN);
        D.due("aside(0, -1)", x.aside(0, -1), SourcePositions.OUTSIDE);
        D.due("aside(0, 2)", x.aside(0, 2), SourcePositions.OUTSIDE);
    }

    private static void asideLimit() {
        SourcePositions x = new SourcePositions();
        for (int part = 0; part < 3; part++) {
            x.part(1);
            x.give(part, 0);
            for (int i = 0; i < 34; i++) {
                x.row(part, 1, 100 * part + i, false);
            }
        }
        for (int i = 0; i < 102; i++) {
            D.due("read no. " + (i + 1), x.read(0), SourcePositions.ASIDE);
        }
        D.due("count(5)", x.count(5), 100);
        D.due("aside(99, 0)", x.aside(99, 0), 0);
        D.due("aside(99, 1)", x.aside(99, 1), 33);
        D.due("aside(100, 0)", x.aside(100, 0), SourcePositions.UNKNOWN);
        D.due("passed all the same", x.told(2, 0), 34);
        D.due("water of a row that was not noted", x.told(2, 1), 233);
    }

    private static void rates() {
        D.promise(18, "rate");
        SourcePositions x = new SourcePositions();
        Class<NullPointerException> none = NullPointerException.class;
        D.due("rate(0) without parts", x.rate(0), SourcePositions.UNKNOWN);
        partWith(x, 2, 0, 1);
        partWith(x, 1, 10, 2);
        partWith(x, 9, 20, 2);
        x.part(7);
        D.due("rate(-1)", x.rate(-1), SourcePositions.UNKNOWN);
        D.due("rate(4)", x.rate(4), SourcePositions.UNKNOWN);
        D.dueThrow("rate(0), read by none", () -> x.rate(0), none);
        x.scale(2);
        // Task 0 reads parts 0 and 2, task 1 parts 1 and 3; part 3 has no row.
        D.due("rate(0)", x.rate(0), 181);
        D.due("rate(2)", x.rate(2), 818);
        D.due("rate(1)", x.rate(1), 1000);
        D.due("rate(3), not ready", x.rate(3), 875);
        x.give(1, 0);
        D.due("rate(1)", x.rate(1), 83);
        x.give(2, -1);
        D.due("rate(0)", x.rate(0), 666);
        D.due("rate(1)", x.rate(1), 333);
        D.dueReads(x, 0, 0);
        D.due("rate(1), the other not ready", x.rate(1), 1000);
        D.due("rate(0), itself not ready", x.rate(0), 666);
        x.end(0);
        D.due("rate(0), done", x.rate(0), 666);
        D.dueThrow("rate(2)", () -> x.rate(2), none);
    }

    private static void waters() {
        D.promise(19, "water");
        SourcePositions x = new SourcePositions();
        x.part(1);
        x.row(0, 1, 100, true);
        x.row(0, 2, 50, true);
        x.row(0, 3, 300, true);
        D.due("nothing passed", x.water(), -1);
        x.give(0, 0);
        D.dueReads(x, 0, 1, 2);
        D.due("of one part", x.water(), 100);
        x.part(1);
        D.due("a part without rows counts", x.water(), -1);
        x.row(1, 4, 200, true);
        x.give(1, 0);
        D.dueReads(x, 0, 3, 4);
        D.due("the least", x.water(), 200);
        x.end(1);
        D.due("without those done", x.water(), 300);
        x.end(0);
        D.due("of none the greatest", x.water(), 300);
        x.part(1);
        D.due("a new part", x.water(), -1);
        x.end(2);
        D.due("all done, one without rows", x.water(), 300);

        x.clear();
        x.part(1);
        x.end(0);
        D.due("done without rows", x.water(), -1);
        x.clear();
        x.part(1);
        x.row(0, 1, 0, true);
        x.give(0, 0);
        x.read(0);
        D.due("the time 0", x.water(), 0);
    }

    private static void counts() {
        D.promise(20, "count");
        SourcePositions x = new SourcePositions();
        D.due("count(-1)", x.count(-1), SourcePositions.OUTSIDE);
        D.due("count(10)", x.count(10), SourcePositions.OUTSIDE);
        partWith(x, 1, 0, 2);
        partWith(x, 1, 1, 2);
        x.part(1);
        x.row(0, 9, 9, false);
        x.end(0);
        x.end(2);
        x.scale(4);
        x.mark();
        x.lose(2, false);
        x.lose(50, false);
        x.lose(50, true);
        D.dueCounts(x, 3, 4, 1, 0, 0, 0, 1, 0, 0, 3);
        D.dueReads(x, 0, 0, SourcePositions.LOST, 1, SourcePositions.ASIDE);
        D.dueReads(x, 1, SourcePositions.DOUBLE, 2);
        D.dueCounts(x, 3, 4, 1, 6, 3, 1, 2, 1, 1, 2);
        x.restore(0);
        D.dueCounts(x, 3, 4, 1, 6, 0, 0, 1, 1, 1, 2);
    }
}
