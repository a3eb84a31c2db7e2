/** Objects in states that the tests begin from. */
final class States {
    private States() { }

    /** Nothing is done. */
    static void fresh(SourcePositions x) {
    }

    /** SOUND ROWS more of a PART, with NUMBERS and TIMES that go up by one. */
    static void rows(SourcePositions x, int part, int howMany, int firstNumber, int firstTime) {
        for (int i = 0; i < howMany; i++) {
            x.row(part, firstNumber + i, firstTime + i, true);
        }
    }

    static void reads(SourcePositions x, int task, int times) {
        for (int i = 0; i < times; i++) {
            x.read(task);
        }
    }

    /** One PART with so many SOUND ROWS, NUMBERS and TIMES from 0 up, read by TASK 0. */
    static void onePart(SourcePositions x, int howMany) {
        x.part(1);
        rows(x, 0, howMany, 0, 0);
        x.give(0, 0);
    }

    /**
     * Of everything some, and room for more: PARTS 0 and 2 with ROWS to come, 1 ENDED by a SPLIT and READY, 3 without
     * ROWS, 4 DONE, 5 SPLIT off 1; three TASKS, three MARKS, NUMBERS that are GIVEN, ROWS that are ASIDE, and
     * deliveries told to be LOST and TWICE.
     */
    static void busy(SourcePositions x) {
        x.scale(3);
        int[] shares = {2, 5, 9, 1, 3};
        for (int share : shares) {
            x.part(share);
        }
        rows(x, 0, 6, 10, 100);
        rows(x, 1, 3, 20, 50);
        x.row(1, 20, 7, false);
        rows(x, 1, 3, 10, 400);
        rows(x, 2, 4, 30, 500);
        x.row(2, 99, 90, false);
        rows(x, 2, 2, 200, 1000);
        rows(x, 4, 2, 40, 10);
        x.row(4, 41, 99, false);
        x.mark();
        x.give(0, 0);
        x.give(1, 0);
        x.give(2, 1);
        x.give(4, 2);
        reads(x, 0, 3);
        x.mark();
        x.end(4);
        reads(x, 2, 3);
        x.split(1, 4);
        x.give(5, 1);
        x.lose(1, true);
        x.lose(2, false);
        reads(x, 1, 2);
        x.mark();
        reads(x, 0, 1);
        x.lose(1, true);
        x.lose(3, false);
        x.lose(50, false);
        x.lose(50, true);
    }

    /** Busy, and room for no PART more. */
    static void busyWithTwelveParts(SourcePositions x) {
        busy(x);
        for (int part = 6; part < 12; part++) {
            x.part(7);
        }
    }

    /** Busy, and room for no ROW more of PART 3; its ROWS are not SOUND. */
    static void busyWithAFullPart(SourcePositions x) {
        busy(x);
        for (int i = 0; i < 40; i++) {
            x.row(3, 77, 70 + i, false);
        }
    }

    /** Busy, and room for no MARK more. */
    static void busyWithSixMarks(SourcePositions x) {
        busy(x);
        for (int mark = 3; mark < 6; mark++) {
            x.mark();
            x.read(0);
        }
    }

    /** Room for no PART and no MARK more, and TASKS as many as there can be; three ROWS in each PART. */
    static void full(SourcePositions x) {
        for (int part = 0; part < 12; part++) {
            x.part(part % 9 + 1);
            rows(x, part, 2, 5 * part, 10 * part);
            x.row(part, 5 * part, 3, part % 3 != 0);
        }
        x.scale(6);
        for (int mark = 0; mark < 6; mark++) {
            x.mark();
            reads(x, mark, mark);
        }
        x.end(7);
        x.lose(2, true);
        x.lose(4, false);
    }
}
