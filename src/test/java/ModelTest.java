import java.util.ArrayList;
import java.util.List;
import java.util.Random;

/**
 * Runs of 512 calls, drawn from fixed seeds, on the class and on the model: every answer must agree. A run ends with
 * questions, so that all state that it came to is looked at from many sides.
 * What calls behind the 512th answer is free, but none may throw what the document does not name: a few runs go on.
 */
public final class ModelTest {
    private static final int RUNS = 4000;
    private static final int CALLS = 512;
    private static final int LEAST_QUESTIONS = 100;
    private static final int LONG_RUNS = 4;
    private static final int LONG_CALLS = 20000;
    private static final int[] WILD = {Integer.MIN_VALUE, -2000000012, -100, -12, -2, -1, 0, 1, 5, 6, 7, 11, 12, 39, 40, 41,
        50, 51, 99, 100, 255, 256, 100000, 100001, Integer.MAX_VALUE};

    private final Random random;
    private final boolean wild;
    private final boolean keep;
    private final SourcePositions x = new SourcePositions();
    private final Model model = new Model();
    private final List<String> calls = new ArrayList<>();
    private boolean threwElsewhere;

    /** A call of the class that may throw one of the two that the document names. */
    private interface Call {
        int answer();
    }

    private ModelTest(long seed) {
        random = new Random(seed);
        wild = seed % 5 == 0;
        keep = seed % 3 != 0;
    }

    public static void main(String[] args) {
        for (int seed = 1; seed <= RUNS + LONG_RUNS; seed++) {
            ModelTest run = new ModelTest(seed);
            if (!(seed <= RUNS ? run.agrees() : run.goesOn())) {
                System.out.println("seed " + seed + ", the calls: " + run.calls);
                System.exit(1);
            }
        }
        System.out.println(RUNS + " runs of " + CALLS + " calls agree with the model, " + LONG_RUNS + " of " + LONG_CALLS + " went on");
    }

    private boolean agrees() {
        int changing = 1 + random.nextInt(CALLS - LEAST_QUESTIONS);
        while (calls.size() < changing) {
            if (!oneCall()) {
                return false;
            }
        }
        while (calls.size() < CALLS) {
            if (!sameQuestion()) {
                return false;
            }
        }
        return true;
    }

    private boolean goesOn() {
        while (calls.size() < LONG_CALLS) {
            oneCall();
        }
        return !threwElsewhere;
    }

    private boolean same(String call, Call made, int want) {
        calls.add(call);
        int got;
        try {
            got = made.answer();
        } catch (ArrayIndexOutOfBoundsException e) {
            got = Model.INDEX;
            threwElsewhere |= !call.startsWith("number");
        } catch (NullPointerException e) {
            got = Model.NULL;
            threwElsewhere |= !call.startsWith("number") && !call.startsWith("rate");
        }
        if (got != want && calls.size() <= CALLS) {
            System.out.println(call + " answered " + got + ", the model " + want);
        }
        return got == want;
    }

    /** Mostly what fits, sometimes just beside it, in wild runs often anything. */
    private int draw(int from, int to) {
        if (random.nextInt(wild ? 4 : 60) == 0) {
            return WILD[random.nextInt(WILD.length)];
        }
        return from + random.nextInt(to - from + 1);
    }

    private int somePart() {
        return draw(0, Math.max(0, model.count(0) - 1));
    }

    private int someTask() {
        return draw(0, model.count(1) - 1);
    }

    private boolean oneCall() {
        int kind = random.nextInt(100);
        if (kind < 24) {
            return sameRow();
        }
        if (kind < 56) {
            int task = someTask();
            return same("read(" + task + ")", () -> x.read(task), model.read(task));
        }
        if (kind < 64) {
            int part = somePart();
            int task = draw(-1, model.count(1) - 1);
            return same("give(" + part + ", " + task + ")", () -> x.give(part, task), model.give(part, task));
        }
        if (kind < 72) {
            int n = draw(1, random.nextBoolean() ? 3 : 50);
            boolean twice = random.nextBoolean();
            return same("lose(" + n + ", " + twice + ")", () -> x.lose(n, twice), model.lose(n, twice));
        }
        return kind < 82 ? samePartCall() : kind < 90 ? sameMarkCall() : sameQuestion();
    }

    private boolean sameRow() {
        int part = somePart();
        int number = draw(0, random.nextBoolean() ? 30 : 255);
        int time = draw(0, random.nextBoolean() ? 300 : 100000);
        boolean sound = random.nextInt(5) != 0;
        return same("row(" + part + ", " + number + ", " + time + ", " + sound + ")",
            () -> x.row(part, number, time, sound), model.row(part, number, time, sound));
    }

    private boolean samePartCall() {
        int part = somePart();
        switch (random.nextInt(10)) {
            case 0:
                return same("end(" + part + ")", () -> x.end(part), model.end(part));
            case 1: case 2: case 3:
                int place = draw(Math.min(39, Math.max(0, model.told(part, 0))), 39);
                return same("split(" + part + ", " + place + ")", () -> x.split(part, place), model.split(part, place));
            default:
                int share = draw(1, 9);
                return same("part(" + share + ")", () -> x.part(share), model.part(share));
        }
    }

    private boolean sameMarkCall() {
        switch (random.nextInt(keep ? 11 : 12)) {
            case 0: case 1: case 2: case 3:
                return same("mark()", x::mark, model.mark());
            case 4: case 5: case 6:
                int mark = draw(0, Math.max(0, model.count(2) - 1));
                return same("restore(" + mark + ")", () -> x.restore(mark), model.restore(mark));
            case 7:
                int time = draw(0, random.nextBoolean() ? 300 : 100000);
                return same("start(" + time + ")", () -> x.start(time), model.start(time));
            case 11:
                return same("clear()", x::clear, model.clear());
            default:
                int n = draw(1, 6);
                return same("scale(" + n + ")", () -> x.scale(n), model.scale(n));
        }
    }

    private boolean sameQuestion() {
        int part = somePart();
        int what = draw(0, 9);
        int place = draw(0, 39);
        int i = draw(0, Math.max(0, model.count(5) - 1));
        int number = draw(0, random.nextBoolean() ? 30 : 255);
        switch (random.nextInt(12)) {
            case 0:
                return same("water()", x::water, model.water());
            case 1:
                return same("latest(" + what / 2 + ")", () -> x.latest(what / 2), model.latest(what / 2));
            case 2:
                return same("given(" + number + ")", () -> x.given(number), model.given(number));
            case 3:
                return same("aside(" + i + ", " + what / 4 + ")", () -> x.aside(i, what / 4), model.aside(i, what / 4));
            case 4: case 5:
                return same("number(" + part + ", " + place + ")", () -> x.number(part, place), model.number(part, place));
            case 6: case 7:
                return same("count(" + what + ")", () -> x.count(what), model.count(what));
            case 8:
                return same("rate(" + part + ")", () -> x.rate(part), model.rate(part));
            default:
                return same("told(" + part + ", " + what + ")", () -> x.told(part, what), model.told(part, what));
        }
    }
}
