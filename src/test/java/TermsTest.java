/**
 * The document's Terms, sentence by sentence, in their order; the sentence stands above its test. Boundary cases and
 * refusals are in the tests of the promises.
 */
public final class TermsTest implements Answers {
    public static void main(String[] args) {
        Due.run(TermsTest.class);
    }

    /** A PART of the SHARE with SOUND ROWS of these NUMBERS; the TIME of each is ten times its NUMBER. */
    private static int partOf(SourcePositions x, int share, int... numbers) {
        int part = x.part(share);
        for (int number : numbers) {
            x.row(part, number, 10 * number, true);
        }
        return part;
    }

    /** One PART with ROWS of these NUMBERS, read by TASK 0. */
    private static SourcePositions readOf(int... numbers) {
        SourcePositions x = new SourcePositions();
        partOf(x, 1, numbers);
        x.give(0, 0);
        return x;
    }

    // ---- 1 PARTS

    /** "PARTS 0 .. 11, as they come": those of part() and those of split() in one row. */
    static void partsAreNumberedAsTheyCome(Due d) {
        SourcePositions x = new SourcePositions();
        d.due("part(1)", partOf(x, 1, 1, 2, 3), 0);
        d.due("part(1)", partOf(x, 1, 4, 5), 1);
        d.due("split(0, 2)", x.split(0, 2), 2);
        d.due("part(1)", x.part(1), 3);
        d.due("split(1, 1)", x.split(1, 1), 4);
        d.due("split(0, 1)", x.split(0, 1), 5);
        for (int part = 6; part <= 11; part++) {
            d.due("part(1)", x.part(1), part);
        }
        d.due("part(1)", x.part(1), FULL);
    }

    /** "have ROWS at places 0 .. 39, as they come": also when the PARTS take turns. */
    static void rowsStandAsTheyCome(Due d) {
        SourcePositions x = new SourcePositions();
        x.part(1);
        x.part(1);
        for (int place = 0; place < 40; place++) {
            d.due("row of 0", x.row(0, 100 - place, 5, true), place + 1);
            d.due("row of 1", x.row(1, 100 + place, 5, true), place + 1);
        }
        for (int place = 0; place < 40; place++) {
            d.due("number(0, " + place + ")", x.number(0, place), 100 - place);
            d.due("number(1, " + place + ")", x.number(1, place), 100 + place);
        }
    }

    /** "a NUMBER 0 .. 255, a TIME 0 .. 100000 (in any order), SOUND or not" */
    static void aRowHasANumberATimeAndIsSoundOrNot(Due d) {
        SourcePositions x = new SourcePositions();
        x.part(1);
        int[] numbers = {3, 255, 0, 3, 200};
        int[] times = {500, 0, 100000, 7, 500};
        boolean[] sounds = {true, true, false, false, true};
        for (int i = 0; i < numbers.length; i++) {
            x.row(0, numbers[i], times[i], sounds[i]);
        }
        x.give(0, 0);
        for (int i = 0; i < numbers.length; i++) {
            d.due("number(0, " + i + ")", x.number(0, i), numbers[i]);
            d.due("read(0)", x.read(0), sounds[i] ? numbers[i] : ASIDE);
            d.dueLatest(x, 0, i, times[i], i + 1, 0);
        }
    }

    /** "A PART may be ENDED: no ROW comes any more." The others go on. */
    static void anEndedPartGetsNoRow(Due d) {
        SourcePositions x = readOf(1, 2);
        x.part(1);
        d.due("told(0, 6)", x.told(0, 6), 0);
        d.due("end(0)", x.end(0), 2);
        d.due("told(0, 6)", x.told(0, 6), 1);
        d.due("row(0, 3, 30, true)", x.row(0, 3, 30, true), STATE);
        d.due("row(1, 3, 30, true)", x.row(1, 3, 30, true), 1);
        d.dueReads(x, 0, 1, 2, NONE);
    }

    /** "Its POSITION is the place of the ROW that is read next (0 at first)" */
    static void thePositionIsThePlaceReadNext(Due d) {
        SourcePositions x = readOf(8, 6, 7);
        for (int place = 0; place < 3; place++) {
            d.due("told(0, 0)", x.told(0, 0), place);
            int next = x.number(0, place);
            d.due("read(0)", x.read(0), next);
            d.due("latest(1)", x.latest(1), place);
        }
        d.due("told(0, 0)", x.told(0, 0), 3);
    }

    /** "its WATER the greatest TIME of its ROWS that were passed (-1 at first)": not of those to come, or of others. */
    static void waterIsTheGreatestTimePassed(Due d) {
        SourcePositions x = readOf(4, 9, 2, 25);
        partOf(x, 1, 30);
        int[] waters = {-1, 40, 90, 90, 250};
        for (int water : waters) {
            d.due("told(0, 1)", x.told(0, 1), water);
            d.due("told(1, 1)", x.told(1, 1), -1);
            x.read(0);
        }
    }

    /** "its SHARE 1 .. 9 (1 at first); its CREDIT (0 at first)": a PART comes with the SHARE that part() is told. */
    static void aPartHasItsShareAndNoCredit(Due d) {
        SourcePositions x = new SourcePositions();
        for (int share = 9; share >= 1; share--) {
            int part = x.part(share);
            d.due("told(" + part + ", 3)", x.told(part, 3), share);
            d.due("told(" + part + ", 2)", x.told(part, 2), 0);
        }
    }

    /** "It is READY, if there is a ROW at its POSITION": whoever reads it, ENDED or not. */
    static void readyIfARowIsAtThePosition(Due d) {
        SourcePositions x = readOf();
        d.due("told(0, 7), no row", x.told(0, 7), 0);
        x.row(0, 1, 10, true);
        d.due("told(0, 7), a row", x.told(0, 7), 1);
        x.give(0, NONE);
        d.due("told(0, 7), a row and no reader", x.told(0, 7), 1);
        x.give(0, 0);
        d.dueReads(x, 0, 1);
        d.due("told(0, 7), behind it", x.told(0, 7), 0);
        x.row(0, 2, 20, false);
        x.end(0);
        d.due("told(0, 7), a row more, and the end", x.told(0, 7), 1);
        d.dueReads(x, 0, ASIDE);
        d.due("told(0, 7), behind the end", x.told(0, 7), 0);
    }

    /** "DONE, if it is ENDED and not READY" */
    static void doneIfEndedAndNotReady(Due d) {
        SourcePositions x = readOf(1);
        d.due("told(0, 8), ready", x.told(0, 8), 0);
        x.end(0);
        d.due("told(0, 8), ended and ready", x.told(0, 8), 0);
        d.dueReads(x, 0, 1);
        d.due("told(0, 8), ended and not ready", x.told(0, 8), 1);
        x.start(0);
        d.due("told(0, 8), ready again", x.told(0, 8), 0);
        x.part(1);
        d.due("told(1, 8), neither", x.told(1, 8), 0);
    }

    /** "from its POSITION on, with a ROW there": every place of a PART, from each POSITION it can have. */
    static void splitFromThePositionOnWithARowThere(Due d) {
        for (int position = 0; position <= 5; position++) {
            for (int place = -1; place <= 6; place++) {
                SourcePositions x = readOf(0, 1, 2, 3, 4);
                States.reads(x, 0, position);
                boolean isThere = place >= 0 && place < 5;
                boolean mayBe = place >= position && place > 0;
                int want = !isThere ? UNKNOWN : mayBe ? 1 : STATE;
                d.due("split(0, " + place + ") at the position " + position, x.split(0, place), want);
                d.due("count(0)", x.count(0), want == 1 ? 2 : 1);
                d.due("told(0, 5)", x.told(0, 5), want == 1 ? place : 5);
            }
        }
    }

    /** "a new PART has its ROWS from p on (these keep NUMBERS and TIMES, not their places: 0 on)" */
    static void theNewPartHasTheRowsFromThere(Due d) {
        SourcePositions x = readOf(5, 15, 10, 25);
        x.read(0);
        d.due("split(0, 2)", x.split(0, 2), 1);
        d.due("told(1, 5)", x.told(1, 5), 2);
        d.due("number(1, 0)", x.number(1, 0), 10);
        d.due("number(1, 1)", x.number(1, 1), 25);
        x.give(1, 0);
        x.give(0, NONE);
        d.dueReads(x, 0, 10);
        d.dueLatest(x, 1, 0, 100, 2, 0);
        d.dueReads(x, 0, 25);
        d.dueLatest(x, 1, 1, 250, 3, 0);
    }

    /** "its SHARE, no reader, and is ENDED if that one is"; and what each PART has at first. */
    static void theNewPartHasItsShareNoReaderAndItsEnd(Due d) {
        for (int ended = 0; ended <= 1; ended++) {
            SourcePositions x = new SourcePositions();
            partOf(x, 6, 1, 2, 3);
            partOf(x, 4, 11, 12);
            x.scale(1);
            if (ended == 1) {
                x.end(0);
            }
            d.dueReads(x, 0, 1);
            d.due("told(0, 2)", x.told(0, 2), -4);
            d.due("split(0, 2)", x.split(0, 2), 2);
            d.dueTold(x, 2, 0, -1, 0, 6, NONE, 1, ended, 1, 0, 0);
        }
    }

    /** "the PART itself has those ahead of p, and is ENDED": where it stands, its SHARE and its reader stay. */
    static void thePartItselfHasThoseAheadAndIsEnded(Due d) {
        SourcePositions x = new SourcePositions();
        partOf(x, 6, 1, 2, 3);
        partOf(x, 4, 11, 12);
        x.scale(1);
        d.dueReads(x, 0, 1);
        x.split(0, 2);
        d.dueTold(x, 0, 1, 10, -4, 6, 0, 2, 1, 1, 0, NONE);
        d.due("number(0, 1)", x.number(0, 1), 2);
        d.dueThrow("number(0, 2)", () -> x.number(0, 2), NULL);
        d.due("row(0, 4, 40, true)", x.row(0, 4, 40, true), STATE);
        d.dueTold(x, 1, 0, -1, 4, 4, 0, 2, 0, 1, 0, NONE);
    }

    // ---- 2 TASKS

    /** "TASKS are 0 .. n - 1 (1 at first)." */
    static void tasksAreUpToTheirNumber(Due d) {
        SourcePositions x = new SourcePositions();
        int tasks = 1;
        int[] next = {4, 2, 6, 3, 1};
        for (int n : next) {
            for (int task = 0; task < 7; task++) {
                d.due("read(" + task + ") of " + tasks, x.read(task), task < tasks ? NONE : UNKNOWN);
            }
            x.scale(n);
            tasks = n;
            d.due("count(1)", x.count(1), n);
        }
    }

    /** "A PART is read by one TASK, or none (at first)": whom it is given to takes it from whom it was given to. */
    static void onePartHasOneReader(Due d) {
        SourcePositions x = new SourcePositions();
        x.scale(3);
        partOf(x, 1, 1, 2, 3, 4);
        for (int task = 0; task < 3; task++) {
            d.due("read(" + task + ")", x.read(task), NONE);
        }
        int[] readers = {2, 0, 1, NONE};
        int before = NONE;
        for (int reader : readers) {
            d.due("give(0, " + reader + ")", x.give(0, reader), before);
            d.due("told(0, 4)", x.told(0, 4), reader);
            for (int task = 0; task < 3; task++) {
                int position = x.told(0, 0);
                d.due("read(" + task + ")", x.read(task), task == reader ? position + 1 : NONE);
            }
            before = reader;
        }
    }

    /**
     * "each of its READY PARTS gets its SHARE as CREDIT more; that of them with the greatest CREDIT .. gives all their
     * SHARES together away"
     */
    static void aReadingMovesCredit(Due d) {
        SourcePositions x = new SourcePositions();
        partOf(x, 3, 1, 2, 3, 4);
        partOf(x, 5, 11, 12, 13, 14);
        partOf(x, 2, 21, 22, 23, 24);
        x.scale(1);
        // Ahead of each choice: 3 5 2, 6 0 4, -1 5 6, 2 10 -2, 5 5 0, -2 10 2.
        int[] numbers = {11, 1, 21, 12, 2, 13};
        int[][] credits = {{3, -5, 2}, {-4, 0, 4}, {-1, 5, -4}, {2, 0, -2}, {-5, 5, 0}, {-2, 0, 2}};
        for (int i = 0; i < numbers.length; i++) {
            d.due("read no. " + (i + 1), x.read(0), numbers[i]);
            for (int part = 0; part < 3; part++) {
                d.due("told(" + part + ", 2) behind read no. " + (i + 1), x.told(part, 2), credits[i][part]);
            }
            d.due("latest(4)", x.latest(4), credits[i][x.latest(0)]);
        }
    }

    /** "of several the least": the least PART, whichever has the greater SHARE. */
    static void ofSeveralWithTheSameCreditTheLeastPart(Due d) {
        SourcePositions x = new SourcePositions();
        partOf(x, 1, 1, 2);
        partOf(x, 3, 11, 12, 13, 14);
        x.scale(1);
        // Ahead of each choice: 1 3, 2 2, -1 5, 0 4.
        d.dueReads(x, 0, 11, 1, 12, 13);
        SourcePositions y = new SourcePositions();
        partOf(y, 3, 1, 2, 3, 4);
        partOf(y, 1, 11, 12);
        y.scale(1);
        // Ahead of each choice: 3 1, 2 2, 1 3, 4 0.
        d.dueReads(y, 0, 1, 2, 11, 3);
    }

    /** "and is DELIVERED from: the ROW at its POSITION" */
    static void theRowAtThePositionIsDelivered(Due d) {
        SourcePositions x = readOf(9, 8, 7, 6);
        x.start(0);
        d.dueReads(x, 0, 9, 8);
        x.start(75);
        // The places with 80 and 90 are ahead of that with 70.
        d.due("told(0, 0)", x.told(0, 0), 0);
        x.mark();
        d.dueReads(x, 0, 9, 8, 7);
        x.restore(0);
        d.dueReads(x, 0, 9);
    }

    /** "Deliveries are numbered 1, 2, .. (also those of earlier READINGS)": whatever comes of them; NONE is none. */
    static void deliveriesAreNumbered(Due d) {
        SourcePositions x = new SourcePositions();
        x.part(1);
        x.row(0, 1, 1, true);
        x.row(0, 2, 2, false);
        x.row(0, 1, 3, true);
        x.row(0, 3, 4, true);
        x.lose(2, false);
        d.dueReads(x, 0, NONE);
        x.give(0, 0);
        int[] answers = {1, LOST, ASIDE, DOUBLE, 3};
        for (int i = 0; i < answers.length; i++) {
            d.due("read(0)", x.read(0), answers[i]);
            d.due("latest(3)", x.latest(3), i + 1);
            d.due("count(3)", x.count(3), i + 1);
        }
        d.dueReads(x, 0, NONE);
        x.start(0);
        d.dueReads(x, 0, 1);
        d.due("latest(3)", x.latest(3), 6);
    }

    /** "a number told as LOST, or as TWICE, is so once" */
    static void whatIsToldOfANumberIsSoOnce(Due d) {
        SourcePositions x = readOf(1, 2, 3, 4);
        d.due("lose(2, false)", x.lose(2, false), 1);
        d.due("lose(2, false)", x.lose(2, false), 0);
        d.due("lose(4, true)", x.lose(4, true), 1);
        d.due("lose(4, true)", x.lose(4, true), 0);
        d.dueReads(x, 0, 1, LOST, 2, 3, DOUBLE, 4, NONE);
        d.due("count(9)", x.count(9), 0);
    }

    /** "What comes of it, the first of these": every kind of delivery there is. */
    static void theFirstThatFits(Due d) {
        for (int kinds = 0; kinds < 16; kinds++) {
            boolean lost = (kinds & 1) != 0;
            boolean sound = (kinds & 2) != 0;
            boolean givenBefore = (kinds & 4) != 0;
            boolean twice = (kinds & 8) != 0;
            SourcePositions x = new SourcePositions();
            x.part(1);
            x.row(0, givenBefore ? 7 : 8, 20, true);
            x.row(0, 7, 30, sound);
            x.give(0, 0);
            x.read(0);
            if (lost) {
                x.lose(1, false);
            }
            if (twice) {
                x.lose(1, true);
            }
            int want = lost ? LOST : !sound ? ASIDE : givenBefore ? DOUBLE : 7;
            boolean stays = lost || (want == 7 && twice);
            d.due("read(0) of kind " + kinds, x.read(0), want);
            d.due("told(0, 0) of kind " + kinds, x.told(0, 0), stays ? 1 : 2);
            d.due("told(0, 1) of kind " + kinds, x.told(0, 1), stays ? 20 : 30);
            d.due("given(7) of kind " + kinds, x.given(7), givenBefore || want == 7 ? 1 : 0);
            d.due("count(4) of kind " + kinds, x.count(4), want == 7 ? 2 : 1);
            d.due("count(5) of kind " + kinds, x.count(5), want == ASIDE ? 1 : 0);
            d.due("count(7) of kind " + kinds, x.count(7), want == LOST ? 1 : 0);
            d.due("count(8) of kind " + kinds, x.count(8), want == DOUBLE ? 1 : 0);
            d.due("count(9) of kind " + kinds, x.count(9), 0);
        }
    }

    /** "LOST: nothing else (the same ROW is delivered again some time)": but it is a READING: CREDIT moves. */
    static void aLostRowIsDeliveredAgain(Due d) {
        SourcePositions x = new SourcePositions();
        partOf(x, 1, 1, 2);
        partOf(x, 1, 11, 12);
        x.scale(1);
        x.lose(1, false);
        d.dueReads(x, 0, LOST);
        d.dueLatest(x, 0, 0, 10, 1, -1);
        d.due("told(1, 2)", x.told(1, 2), 1);
        d.dueReads(x, 0, 11, 1);
        d.dueLatest(x, 0, 0, 10, 3, -1);
    }

    /** "it is noted (PART, place as it is now ..)": in the order of the deliveries, and not by where it came from. */
    static void whatIsAsideIsNoted(Due d) {
        SourcePositions x = new SourcePositions();
        x.part(1);
        x.part(1);
        for (int i = 0; i < 4; i++) {
            x.row(0, i, i, i < 2);
            x.row(1, 10 + i, i, i == 0);
        }
        x.split(0, 3);
        x.scale(3);
        d.dueReads(x, 2, ASIDE);
        d.dueReads(x, 1, 10, ASIDE);
        d.dueReads(x, 0, 0, 1, ASIDE);
        x.split(1, 2);
        int[][] want = {{2, 0}, {1, 1}, {0, 2}};
        for (int i = 0; i < want.length; i++) {
            d.due("aside(" + i + ", 0)", x.aside(i, 0), want[i][0]);
            d.due("aside(" + i + ", 1)", x.aside(i, 1), want[i][1]);
        }
        d.due("count(5)", x.count(5), 3);
    }

    /** "DOUBLE: its NUMBER was GIVEN before": from whichever PART, TASK and TIME; ASIDE and LOST do not give. */
    static void doubleIfItsNumberWasGivenBefore(Due d) {
        SourcePositions x = new SourcePositions();
        x.part(1);
        x.row(0, 5, 1, false);
        x.row(0, 5, 2, true);
        x.row(0, 5, 3, true);
        x.part(1);
        x.row(1, 5, 9, true);
        x.scale(2);
        x.lose(2, false);
        d.dueReads(x, 0, ASIDE, LOST, 5, DOUBLE);
        d.dueReads(x, 1, DOUBLE);
        d.due("told(0, 0)", x.told(0, 0), 3);
        d.due("told(1, 1)", x.told(1, 1), 9);
        d.due("count(8)", x.count(8), 2);
    }

    /** "it is passed, unless the delivery is TWICE (it stays then, and WATER, too)": the next delivery of it is DOUBLE. */
    static void aRowDeliveredTwice(Due d) {
        SourcePositions x = readOf(1, 2);
        x.lose(1, true);
        d.dueReads(x, 0, 1);
        d.due("given(1)", x.given(1), 1);
        d.dueTold(x, 0, 0, -1);
        d.dueReads(x, 0, DOUBLE);
        d.dueTold(x, 0, 1, 10);
        d.dueReads(x, 0, 2);
        d.dueTold(x, 0, 2, 20);
    }

    /** "WATER of all: the least WATER of all PARTS that are not DONE; of none the greatest of all; -1 without PARTS." */
    static void waterOfAll(Due d) {
        SourcePositions x = new SourcePositions();
        d.due("water() without parts", x.water(), -1);
        partOf(x, 1, 40, 41);
        partOf(x, 1, 20, 30);
        x.end(0);
        x.end(1);
        x.scale(2);
        d.due("water(), nothing passed", x.water(), -1);
        d.dueReads(x, 0, 40);
        d.due("water(), one passed", x.water(), -1);
        d.dueReads(x, 1, 20);
        d.due("water(), both passed", x.water(), 200);
        d.dueReads(x, 1, 30);
        d.due("water(), 1 is done", x.water(), 400);
        d.dueReads(x, 0, 41);
        d.due("water(), both are done", x.water(), 410);
        x.part(1);
        d.due("water(), a part more", x.water(), -1);
    }

    // ---- 3 MARKS

    /**
     * "A MARK (6 at most) keeps of each PART its POSITION, WATER, CREDIT, and its reader; which NUMBERS were GIVEN, and
     * what is ASIDE."
     */
    static void aMarkKeepsWhereAllStand(Due d) {
        SourcePositions x = new SourcePositions();
        x.part(2);
        x.row(0, 1, 10, true);
        x.row(0, 2, 5, false);
        x.row(0, 3, 30, true);
        x.row(0, 4, 40, false);
        partOf(x, 1, 11, 12);
        x.scale(1);
        // Ahead of each choice: 2 1, 1 2, 3 0, 2 1.
        d.dueReads(x, 0, 1, 11, ASIDE, 3);
        x.give(1, NONE);
        d.due("mark()", x.mark(), 0);
        x.give(1, 0);
        d.dueReads(x, 0, 12, ASIDE, NONE);
        d.dueCounts(x, 2, 1, 1, 6, 4, 2, 0, 0, 0, 0);
        d.due("restore(0)", x.restore(0), 2);
        d.dueTold(x, 0, 3, 30, -1, 2, 0);
        d.dueTold(x, 1, 1, 110, 1, 1, NONE);
        d.dueCounts(x, 2, 1, 1, 6, 3, 1, 0, 0, 0, 0);
        d.due("aside(0, 0)", x.aside(0, 0), 0);
        d.due("aside(0, 1)", x.aside(0, 1), 1);
        int[] numbers = {1, 2, 3, 4, 11, 12};
        int[] given = {1, 0, 1, 0, 1, 0};
        for (int i = 0; i < numbers.length; i++) {
            d.due("given(" + numbers[i] + ")", x.given(numbers[i]), given[i]);
        }
        d.dueReads(x, 0, ASIDE, NONE);
    }

    /** "of PARTS that came later: 0, -1, 0, no reader": those of part() and of split(). */
    static void partsThatCameLaterStandAtTheirBeginning(Due d) {
        SourcePositions x = readOf(1, 2, 3);
        x.mark();
        partOf(x, 3, 11, 12);
        x.split(0, 1);
        x.scale(1);
        // Ahead of each choice: 1 3 1, 2 1 2, then 4 3 of the last two, and 4 and 4 of the last.
        d.dueReads(x, 0, 11, 1, 12, 2, 3);
        d.due("told(0, 2)", x.told(0, 2), -3);
        d.due("told(2, 2)", x.told(2, 2), 3);
        d.due("restore(0)", x.restore(0), 3);
        d.dueTold(x, 0, 0, -1, 0, 1, 0, 1, 1, 1, 0, NONE);
        d.dueTold(x, 1, 0, -1, 0, 3, NONE, 2, 0, 1, 0, NONE);
        d.dueTold(x, 2, 0, -1, 0, 1, NONE, 2, 0, 1, 0, 0);
    }

    /** "a reader that is no TASK any more is none"; the number of TASKS is not kept. */
    static void aReaderThatIsNoTaskAnyMoreIsNone(Due d) {
        SourcePositions x = new SourcePositions();
        for (int part = 0; part < 6; part++) {
            partOf(x, 1, part);
        }
        x.scale(6);
        x.mark();
        for (int tasks = 1; tasks <= 6; tasks++) {
            x.scale(tasks);
            d.due("restore(0)", x.restore(0), 0);
            d.due("count(1)", x.count(1), tasks);
            for (int part = 0; part < 6; part++) {
                d.due("told(" + part + ", 4) of " + tasks, x.told(part, 4), part < tasks ? part : NONE);
            }
        }
    }

    /** "ROWS, SHARES, PARTS, deliveries' numbers stay." */
    static void rowsSharesPartsAndDeliveriesStay(Due d) {
        SourcePositions x = readOf(1, 2);
        x.mark();
        x.row(0, 3, 30, true);
        x.part(8);
        x.lose(2, false);
        x.lose(5, true);
        d.dueReads(x, 0, 1, LOST);
        d.due("restore(0)", x.restore(0), 1);
        d.dueTold(x, 0, 0, -1, 0, 1, 0, 3, 0, 1, 0, NONE);
        d.dueTold(x, 1, 0, -1, 0, 8, NONE, 0, 0, 0, 0, NONE);
        d.dueCounts(x, 2, 1, 1, 2, 0, 0, 0, 1, 0, 1);
        d.dueReads(x, 0, 1);
        d.due("latest(3)", x.latest(3), 3);
        d.dueReads(x, 0, 2, 3, DOUBLE);
        d.due("latest(3)", x.latest(3), 6);
    }

    /**
     * "of each PART the POSITION is the place of its first ROW whose TIME is not before it (behind the last one without
     * such)"
     */
    static void startAtATime(Due d) {
        SourcePositions x = new SourcePositions();
        partOf(x, 1, 3, 9, 5);
        partOf(x, 1, 6, 2);
        partOf(x, 1);
        int[][] places = {{0, 0, 0}, {1, 0, 0}, {1, 2, 0}, {3, 2, 0}};
        int[] times = {30, 31, 61, 91};
        int[] ready = {2, 2, 1, 0};
        for (int i = 0; i < times.length; i++) {
            d.due("start(" + times[i] + ")", x.start(times[i]), ready[i]);
            for (int part = 0; part < 3; part++) {
                d.due("told(" + part + ", 0)", x.told(part, 0), places[i][part]);
            }
        }
    }

    /** "WATER -1, CREDIT 0; nothing is GIVEN or ASIDE." So all comes again. */
    static void startForgetsWhatWasRead(Due d) {
        SourcePositions x = new SourcePositions();
        partOf(x, 2, 1, 2);
        partOf(x, 1, 11);
        x.row(1, 12, 5, false);
        x.scale(1);
        int[] reads = {1, 11, 2, ASIDE, NONE};
        for (int round = 0; round < 3; round++) {
            d.dueReads(x, 0, reads);
            d.due("start(0)", x.start(0), 2);
            d.dueTold(x, 0, 0, -1, 0, 2, 0);
            d.dueTold(x, 1, 0, -1, 0, 1, 0);
            d.due("count(4)", x.count(4), 0);
            d.due("count(5)", x.count(5), 0);
        }
    }

    /**
     * "PARTS that are not DONE are read, one by one in order, by the TASKS 0, 1, .. n - 1, 0, ..; those that are by
     * none."
     */
    static void scaleGivesPartsInTurn(Due d) {
        SourcePositions x = new SourcePositions();
        for (int part = 0; part < 8; part++) {
            partOf(x, 1, part);
        }
        x.give(3, 0);
        x.end(3);
        d.dueReads(x, 0, 3);
        x.end(5);
        d.due("scale(3)", x.scale(3), 7);
        int[] readers = {0, 1, 2, NONE, 0, 1, 2, 0};
        for (int part = 0; part < 8; part++) {
            d.due("told(" + part + ", 4)", x.told(part, 4), readers[part]);
        }
        d.dueReads(x, 2, 2, 6, NONE);
    }

    /** "the first of these that fits": of calls that two refusals fit, or three. */
    static void theFirstRefusalThatFits(Due d) {
        SourcePositions x = new SourcePositions();
        x.part(1);
        States.rows(x, 0, 40, 0, 0);
        x.give(0, 0);
        States.reads(x, 0, 2);
        for (int part = 1; part < 12; part++) {
            x.part(1);
        }
        d.due("part(0), OUTSIDE and FULL", x.part(0), OUTSIDE);
        d.due("row(12, 256, ..), UNKNOWN and OUTSIDE", x.row(12, 256, 0, true), UNKNOWN);
        d.due("row(0, 256, ..), OUTSIDE and FULL", x.row(0, 256, 0, true), OUTSIDE);
        d.due("split(0, 40), UNKNOWN and FULL", x.split(0, 40), UNKNOWN);
        d.due("split(0, -1), UNKNOWN, STATE and FULL", x.split(0, -1), UNKNOWN);
        d.due("split(0, 1), STATE and FULL", x.split(0, 1), STATE);
        d.due("split(0, 2), FULL", x.split(0, 2), FULL);
        d.due("told(12, 10), UNKNOWN and OUTSIDE", x.told(12, 10), UNKNOWN);
        d.due("aside(0, 2), UNKNOWN and OUTSIDE", x.aside(0, 2), UNKNOWN);
        x.end(0);
        d.due("row(0, -1, ..), OUTSIDE, STATE and FULL", x.row(0, -1, 0, true), OUTSIDE);
        d.due("row(0, 1, ..), STATE and FULL", x.row(0, 1, 0, true), STATE);
        x.end(1);
        d.due("give(1, 1), UNKNOWN and STATE", x.give(1, 1), UNKNOWN);
        d.due("give(1, 0), STATE", x.give(1, 0), STATE);
    }
}
