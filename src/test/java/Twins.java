import java.util.ArrayList;
import java.util.List;

/**
 * Objects that must not differ: each is made anew for every group of questions, so that none is asked beyond the
 * 512 calls of the document, and questions that change something do not stand in the way of the next group.
 */
final class Twins {
    private static final int INDEX = -777777701;
    private static final int NULL = -777777702;
    private static final int PARTS = 12;
    private static final int MARKS = 6;

    /** What is done with a new object; some 150 calls at most. */
    interface Steps {
        void on(SourcePositions x);
    }

    /** A call that may throw. */
    interface Call {
        int on(SourcePositions x);
    }

    private interface Questions {
        void ask(SourcePositions x, List<Integer> answers);
    }

    private Twins() { }

    /** The call answers so, and what comes behind it is as if it had not been. */
    static void refused(Due d, String call, Steps before, Call made, int want) {
        SourcePositions x = new SourcePositions();
        before.on(x);
        d.due(call, made.on(x), want);
        alike(d, "behind " + call, before, with(before, made));
    }

    /** The same of a call that throws. */
    static void refused(Due d, String call, Steps before, Call made, Class<? extends RuntimeException> want) {
        SourcePositions x = new SourcePositions();
        before.on(x);
        d.dueThrow(call, () -> made.on(x), want);
        alike(d, "behind " + call, before, with(before, made));
    }

    private static Steps with(Steps before, Call made) {
        return x -> {
            before.on(x);
            answer(x, made);
        };
    }

    /** Both ways lead to the same state: every question, and every call from there on, is answered alike. */
    static void alike(Due d, String what, Steps one, Steps other) {
        alike(d, what + ": parts", one, other, Twins::askParts);
        alike(d, what + ": counts", one, other, Twins::askCounts);
        alike(d, what + ": given", one, other, Twins::askGiven);
        alike(d, what + ": aside", one, other, Twins::askAside);
        alike(d, what + ": numbers", one, other, (x, all) -> askNumbers(x, 0, PARTS / 2, all));
        alike(d, what + ": numbers", one, other, (x, all) -> askNumbers(x, PARTS / 2, PARTS, all));
        alike(d, what + ": reads", one, other, Twins::readOn);
        alike(d, what + ": reads of all rows", one, other, Twins::readAll);
        alike(d, what + ": deliveries told of", one, other, Twins::tellAll);
        alike(d, what + ": marks", one, other, Twins::askMarks);
        for (int i = 0; i < MARKS; i++) {
            int mark = i;
            alike(d, what + ": given in mark " + mark, one, other, (x, all) -> askGivenIn(x, mark, all));
        }
        alike(d, what + ": aside in marks", one, other, Twins::askAsideInMarks);
        alike(d, what + ": calls that change", one, other, Twins::change);
    }

    private static void alike(Due d, String what, Steps one, Steps other, Questions questions) {
        List<Integer> left = answers(one, questions);
        List<Integer> right = answers(other, questions);
        int same = 0;
        while (same < left.size() && left.get(same).equals(right.get(same))) {
            same++;
        }
        d.due(what + ", answers that are the same", same, left.size());
    }

    private static List<Integer> answers(Steps steps, Questions questions) {
        SourcePositions x = new SourcePositions();
        steps.on(x);
        List<Integer> all = new ArrayList<>();
        questions.ask(x, all);
        return all;
    }

    private static int answer(SourcePositions x, Call made) {
        try {
            return made.on(x);
        } catch (ArrayIndexOutOfBoundsException e) {
            return INDEX;
        } catch (NullPointerException e) {
            return NULL;
        }
    }

    private static void askParts(SourcePositions x, List<Integer> all) {
        for (int part = 0; part < PARTS; part++) {
            for (int what = 0; what < 10; what++) {
                all.add(x.told(part, what));
            }
        }
    }

    private static void askCounts(SourcePositions x, List<Integer> all) {
        for (int what = 0; what < 10; what++) {
            all.add(x.count(what));
        }
        for (int what = 0; what < 5; what++) {
            all.add(x.latest(what));
        }
        all.add(x.water());
        for (int i = 0; i < PARTS; i++) {
            int part = i;
            all.add(answer(x, y -> y.rate(part)));
        }
    }

    private static void askGiven(SourcePositions x, List<Integer> all) {
        for (int number = 0; number < 256; number++) {
            all.add(x.given(number));
        }
    }

    private static void askAside(SourcePositions x, List<Integer> all) {
        for (int i = 0; i < 100; i++) {
            all.add(x.aside(i, 0));
            all.add(x.aside(i, 1));
        }
    }

    private static void askNumbers(SourcePositions x, int from, int to, List<Integer> all) {
        for (int i = from; i < to; i++) {
            int part = i;
            for (int k = 0; k < 40; k++) {
                int place = k;
                all.add(answer(x, y -> y.number(part, place)));
            }
        }
    }

    private static void readOn(SourcePositions x, List<Integer> all) {
        for (int round = 0; round < 9; round++) {
            for (int task = 0; task < 6; task++) {
                all.add(x.read(task));
                for (int what = 0; what < 5; what++) {
                    all.add(x.latest(what));
                }
            }
        }
    }

    private static void readAll(SourcePositions x, List<Integer> all) {
        x.start(0);
        x.scale(1);
        for (int i = 0; i < 110; i++) {
            all.add(x.read(0));
            all.add(x.latest(0));
            all.add(x.latest(2));
        }
    }

    private static void tellAll(SourcePositions x, List<Integer> all) {
        for (int n = 1; n <= 50; n++) {
            all.add(x.lose(n, false));
            all.add(x.lose(n, true));
        }
    }

    private static void askMarks(SourcePositions x, List<Integer> all) {
        for (int mark = 0; mark < MARKS; mark++) {
            all.add(x.restore(mark));
            for (int part = 0; part < PARTS; part++) {
                for (int what = 0; what < 3; what++) {
                    all.add(x.told(part, what));
                }
                all.add(x.told(part, 4));
            }
        }
    }

    private static void askGivenIn(SourcePositions x, int mark, List<Integer> all) {
        all.add(x.restore(mark));
        askGiven(x, all);
    }

    private static void askAsideInMarks(SourcePositions x, List<Integer> all) {
        for (int mark = 0; mark < MARKS; mark++) {
            all.add(x.restore(mark));
            for (int i = 0; i < 20; i++) {
                all.add(x.aside(i, 0));
                all.add(x.aside(i, 1));
            }
        }
    }

    private static void change(SourcePositions x, List<Integer> all) {
        for (int part = 0; part < PARTS; part++) {
            all.add(x.row(part, 0, 0, true));
            all.add(x.give(part, 5));
            all.add(x.give(part, 0));
            all.add(x.split(part, 1));
            all.add(x.end(part));
        }
        for (int i = 0; i <= PARTS; i++) {
            all.add(x.part(1));
        }
        for (int i = 0; i <= MARKS; i++) {
            all.add(x.mark());
        }
        all.add(x.start(0));
        all.add(x.scale(6));
        all.add(x.clear());
    }
}
