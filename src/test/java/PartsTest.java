/** Promises 1 to 5, 14 and 16: a new object, and PARTS with their ROWS. */
public final class PartsTest {
    private static final Due D = new Due();

    public static void main(String[] args) {
        newObject();
        parts();
        rows();
        ends();
        splits();
        splitRefusals();
        splitLimits();
        told();
        numbers();
        D.finish();
    }

    private static void newObject() {
        D.promise(1, "a new object");
        SourcePositions x = new SourcePositions();
        D.dueCounts(x, 0, 1, 0, 0, 0, 0, 0, 0, 0, 0);
        D.dueLatest(x, -1, -1, -1, -1, -1);
        D.due("read(0)", x.read(0), SourcePositions.NONE);
        D.due("read(1)", x.read(1), SourcePositions.UNKNOWN);
        D.due("water()", x.water(), -1);
        D.due("told(0, 0)", x.told(0, 0), SourcePositions.UNKNOWN);
        D.due("restore(0)", x.restore(0), SourcePositions.UNKNOWN);
        D.due("clear()", x.clear(), 0);
        x.part(1);
        D.due("count(0) of another object", new SourcePositions().count(0), 0);
    }

    private static void parts() {
        D.promise(2, "part");
        SourcePositions x = new SourcePositions();
        int[] outside = {0, 10, -1, Integer.MIN_VALUE, Integer.MAX_VALUE};
        for (int share : outside) {
            D.due("part(" + share + ")", x.part(share), SourcePositions.OUTSIDE);
        }
        D.due("count(0) after refusals", x.count(0), 0);
        for (int i = 0; i < 12; i++) {
            int share = i % 9 + 1;
            D.due("part(" + share + ")", x.part(share), i);
            D.dueTold(x, i, 0, -1, 0, share, -1, 0, 0, 0, 0, -1);
        }
        D.due("part(1) as the thirteenth", x.part(1), SourcePositions.FULL);
        D.due("part(0) when full", x.part(0), SourcePositions.OUTSIDE);
        D.due("count(0)", x.count(0), 12);
    }

    private static void rows() {
        D.promise(3, "row");
        SourcePositions x = new SourcePositions();
        x.part(1);
        D.due("row(-1, ..)", x.row(-1, 0, 0, true), SourcePositions.UNKNOWN);
        D.due("row(1, ..)", x.row(1, 0, 0, true), SourcePositions.UNKNOWN);
        D.due("row(1, 256, ..)", x.row(1, 256, 0, true), SourcePositions.UNKNOWN);
        D.due("row(0, -1, ..)", x.row(0, -1, 0, true), SourcePositions.OUTSIDE);
        D.due("row(0, 256, ..)", x.row(0, 256, 0, true), SourcePositions.OUTSIDE);
        D.due("row(0, 0, -1, ..)", x.row(0, 0, -1, true), SourcePositions.OUTSIDE);
        D.due("row(0, 0, 100001, ..)", x.row(0, 0, 100001, true), SourcePositions.OUTSIDE);
        D.due("rows after refusals", x.told(0, 5), 0);
        D.due("row(0, 0, 0, true)", x.row(0, 0, 0, true), 1);
        D.due("row(0, 255, 100000, false)", x.row(0, 255, 100000, false), 2);
        for (int i = 3; i <= 40; i++) {
            D.due("row no. " + i, x.row(0, 7, 7, true), i);
        }
        D.due("row no. 41", x.row(0, 7, 7, true), SourcePositions.FULL);
        D.due("row no. 41 outside", x.row(0, 256, 7, true), SourcePositions.OUTSIDE);
        D.due("rows", x.told(0, 5), 40);
        x.end(0);
        D.due("row, full and ended", x.row(0, 7, 7, true), SourcePositions.STATE);
        D.due("row, outside and ended", x.row(0, 7, -7, true), SourcePositions.OUTSIDE);
    }

    private static void ends() {
        D.promise(4, "end");
        SourcePositions x = new SourcePositions();
        D.due("end(0) without parts", x.end(0), SourcePositions.UNKNOWN);
        x.part(1);
        x.part(1);
        x.row(0, 1, 1, true);
        D.due("end(-1)", x.end(-1), SourcePositions.UNKNOWN);
        D.due("end(2)", x.end(2), SourcePositions.UNKNOWN);
        D.due("end(0)", x.end(0), 1);
        D.due("end(0) again", x.end(0), SourcePositions.STATE);
        D.dueTold(x, 0, 0, -1, 0, 1, -1, 1, 1, 1, 0, -1);
        D.due("end(1) without rows", x.end(1), 0);
        D.dueTold(x, 1, 0, -1, 0, 1, -1, 0, 1, 0, 1, -1);
    }

    private static void splits() {
        D.promise(5, "split");
        SourcePositions x = new SourcePositions();
        x.part(4);
        for (int i = 0; i < 6; i++) {
            x.row(0, 10 + i, 100 * i, i != 4);
        }
        x.give(0, 0);
        D.dueReads(x, 0, 10, 11);
        D.due("split(0, 3)", x.split(0, 3), 1);
        D.dueTold(x, 0, 2, 100, 0, 4, 0, 3, 1, 1, 0, -1);
        D.dueTold(x, 1, 0, -1, 0, 4, -1, 3, 0, 1, 0, 0);
        D.due("number(0, 2)", x.number(0, 2), 12);
        D.due("number(1, 0)", x.number(1, 0), 13);
        D.due("number(1, 2)", x.number(1, 2), 15);
        D.due("water()", x.water(), -1);
        D.dueReads(x, 0, 12, SourcePositions.NONE);
        D.due("row on the old part", x.row(0, 1, 1, true), SourcePositions.STATE);
        D.due("row on the new part", x.row(1, 1, 1, true), 4);
        x.give(1, 0);
        D.dueReads(x, 0, 13);
        D.dueLatest(x, 1, 0, 300, 4, 0);
        D.dueReads(x, 0, SourcePositions.ASIDE, 15, 1);
        D.due("aside(0, 0)", x.aside(0, 0), 1);
        D.due("aside(0, 1)", x.aside(0, 1), 1);
        D.due("told(1, 1)", x.told(1, 1), 500);

        x = new SourcePositions();
        x.part(1);
        x.row(0, 1, 1, true);
        x.row(0, 2, 2, true);
        x.end(0);
        D.due("split of an ended part", x.split(0, 1), 1);
        D.due("told(1, 6)", x.told(1, 6), 1);
        D.due("told(1, 7)", x.told(1, 7), 1);
    }

    private static void splitRefusals() {
        SourcePositions x = new SourcePositions();
        x.part(1);
        D.due("split(0, 0) without rows", x.split(0, 0), SourcePositions.UNKNOWN);
        for (int i = 0; i < 4; i++) {
            x.row(0, i, i, true);
        }
        D.due("split(1, 1)", x.split(1, 1), SourcePositions.UNKNOWN);
        D.due("split(-1, 1)", x.split(-1, 1), SourcePositions.UNKNOWN);
        D.due("split(0, -1)", x.split(0, -1), SourcePositions.UNKNOWN);
        D.due("split(0, 4)", x.split(0, 4), SourcePositions.UNKNOWN);
        D.due("split(0, 40)", x.split(0, 40), SourcePositions.UNKNOWN);
        D.due("split(0, MIN)", x.split(0, Integer.MIN_VALUE), SourcePositions.UNKNOWN);
        D.due("split(0, 0)", x.split(0, 0), SourcePositions.STATE);
        x.give(0, 0);
        D.dueReads(x, 0, 0, 1);
        D.due("split before the position", x.split(0, 1), SourcePositions.STATE);
        D.due("count(0) after refusals", x.count(0), 1);
        D.due("told(0, 6) after refusals", x.told(0, 6), 0);
        D.due("split at the position", x.split(0, 2), 1);
        D.dueTold(x, 0, 2, 1, 0, 1, 0, 2, 1, 0, 1, -1);
    }

    private static void splitLimits() {
        SourcePositions x = new SourcePositions();
        x.part(1);
        for (int i = 0; i < 40; i++) {
            x.row(0, i, i, true);
        }
        x.row(0, 40, 0, true);
        for (int i = 1; i < 12; i++) {
            D.due("split to part " + i, x.split(i - 1, 1), i);
            D.due("told(" + i + ", 9)", x.told(i, 9), i - 1);
        }
        D.due("told(11, 5)", x.told(11, 5), 29);
        D.due("split when full", x.split(11, 1), SourcePositions.FULL);
        D.due("split when full, at 0", x.split(11, 0), SourcePositions.STATE);
        D.due("split when full, no row", x.split(11, 29), SourcePositions.UNKNOWN);
        D.due("told(11, 6) after refusals", x.told(11, 6), 0);
        D.due("number(11, 28)", x.number(11, 28), 39);
        D.due("row on part 11", x.row(11, 1, 1, true), 30);
    }

    private static void told() {
        D.promise(14, "told");
        SourcePositions x = new SourcePositions();
        D.due("told(0, 10) without parts", x.told(0, 10), SourcePositions.UNKNOWN);
        x.part(6);
        D.due("told(-1, 0)", x.told(-1, 0), SourcePositions.UNKNOWN);
        D.due("told(1, 0)", x.told(1, 0), SourcePositions.UNKNOWN);
        D.due("told(12, 0)", x.told(12, 0), SourcePositions.UNKNOWN);
        D.due("told(0, -1)", x.told(0, -1), -2000000012);
        D.due("told(0, 10)", x.told(0, 10), -2000000012);
        x.part(9);
        x.part(3);
        x.scale(2);
        x.give(0, 1);
        x.give(1, 1);
        x.give(2, 1);
        for (int part = 0; part < 3; part++) {
            x.row(part, part, 50 + part, true);
            x.row(part, 10 + part, 40, true);
        }
        D.due("read(1)", x.read(1), 1);
        D.dueTold(x, 0, 0, -1, 6, 6, 1, 2, 0, 1, 0, -1);
        D.dueTold(x, 1, 1, 51, -9, 9, 1, 2, 0, 1, 0, -1);
        D.due("read(1)", x.read(1), 0);
        D.due("read(1)", x.read(1), 11);
        D.dueTold(x, 1, 2, 51, -9, 9, 1, 2, 0, 0, 0, -1);
        x.end(1);
        D.dueTold(x, 1, 2, 51, -9, 9, 1, 2, 1, 0, 1, -1);
    }

    private static void numbers() {
        D.promise(16, "number");
        SourcePositions x = new SourcePositions();
        Class<ArrayIndexOutOfBoundsException> index = ArrayIndexOutOfBoundsException.class;
        Class<NullPointerException> none = NullPointerException.class;
        D.dueThrow("number(0, 0) without parts", () -> x.number(0, 0), index);
        x.part(1);
        D.dueThrow("number(-1, 0)", () -> x.number(-1, 0), index);
        D.dueThrow("number(1, 0)", () -> x.number(1, 0), index);
        D.dueThrow("number(12, 0)", () -> x.number(12, 0), index);
        D.dueThrow("number(0, -1)", () -> x.number(0, -1), index);
        D.dueThrow("number(0, 40)", () -> x.number(0, 40), index);
        D.dueThrow("number(0, 0) without rows", () -> x.number(0, 0), none);
        D.dueThrow("number(0, 39) without rows", () -> x.number(0, 39), none);
        for (int i = 0; i < 40; i++) {
            x.row(0, 200 - i, 0, i % 2 == 0);
        }
        D.due("number(0, 0)", x.number(0, 0), 200);
        D.due("number(0, 39)", x.number(0, 39), 161);
        x.split(0, 30);
        D.due("number(0, 29)", x.number(0, 29), 171);
        D.dueThrow("number(0, 30) after the split", () -> x.number(0, 30), none);
        D.due("number(1, 0)", x.number(1, 0), 170);
        D.dueThrow("number(1, 10)", () -> x.number(1, 10), none);
        x.clear();
        D.dueThrow("number(0, 0) after clear()", () -> x.number(0, 0), index);
        x.part(1);
        D.dueThrow("number(0, 0) of a part made anew", () -> x.number(0, 0), none);
    }
}
