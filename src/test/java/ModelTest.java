import java.util.ArrayList;
import java.util.List;
import java.util.Random;

/**
 * Runs of 512 calls, drawn from fixed seeds, on the class and on the model: every answer and all state must agree.
 * What calls behind the 512th answer is free, but none may throw what the document does not name: a few runs go on.
 */
public final class ModelTest {
    private static final int RUNS = 400;
    private static final int CALLS = 512;
    private static final int LONG_RUNS = 4;
    private static final int LONG_CALLS = 20000;
    private static final int CHECK_EVERY = 32;
    private static final int[] WILD = {Integer.MIN_VALUE, -2000000012, -100, -12, -2, -1, 0, 1, 5, 6, 7, 11, 12, 39, 40, 41,
        50, 51, 99, 100, 255, 256, 100000, 100001, Integer.MAX_VALUE};

    private final Random random;
    private final boolean wild;
    private final boolean keep;
    private final SourcePositions x = new SourcePositions();
    private final Model model = new Model();
    private final List<String> calls = new ArrayList<>();

    /** A call of the class that may throw one of the two that the document names. */
    private interface Call {
        int answer();
    }

    private ModelTest(long seed) {
        random = new Random(seed);
        wild = seed % 5 == 0;
        keep = seed % 3 != 0;
    }

    public static void main(String[] args) {
        for (int seed = 1; seed <= RUNS + LONG_RUNS; seed++) {
            ModelTest run = new ModelTest(seed);
            if (!run.agrees(seed <= RUNS ? CALLS : LONG_CALLS)) {
                System.out.println("seed " + seed + ", the calls: " + run.calls);
                System.exit(1);
            }
        }
        System.out.println(RUNS + " runs of " + CALLS + " calls, and " + LONG_RUNS + " of " + LONG_CALLS + ", agree with the model");
    }

    private boolean agrees(int most) {
        for (int i = 1; i <= most; i++) {
            if (!oneCall() || (i % CHECK_EVERY == 0 && !sameState())) {
                return false;
            }
        }
        return true;
    }

    private boolean same(String call, Call made, int want) {
        calls.add(call);
        int got;
        try {
            got = made.answer();
        } catch (ArrayIndexOutOfBoundsException e) {
            got = Model.INDEX;
        } catch (NullPointerException e) {
            got = Model.NULL;
        }
        if (got != want) {
            System.out.println(call + " answered " + got + ", the model " + want);
        }
        return got == want;
    }

    /** Mostly what fits, sometimes just beside it, in wild runs often anything. */
    private int draw(int from, int to) {
        if (random.nextInt(wild ? 4 : 60) == 0) {
            return WILD[random.nextInt(WILD.length)];
        }
        return from + random.nextInt(to - from + 1);
    }

    private int somePart() {
        return draw(0, Math.max(0, model.count(0) - 1));
    }

    private int someTask() {
        return draw(0, model.count(1) - 1);
    }

    private boolean oneCall() {
        int kind = random.nextInt(100);
        if (kind < 24) {
            return sameRow();
        }
        if (kind < 56) {
            int task = someTask();
            return same("read(" + task + ")", () -> x.read(task), model.read(task));
        }
        if (kind < 64) {
            int part = somePart();
            int task = draw(-1, model.count(1) - 1);
            return same("give(" + part + ", " + task + ")", () -> x.give(part, task), model.give(part, task));
        }
        if (kind < 72) {
            int n = draw(1, random.nextBoolean() ? 3 : 50);
            boolean twice = random.nextBoolean();
            return same("lose(" + n + ", " + twice + ")", () -> x.lose(n, twice), model.lose(n, twice));
        }
        return kind < 82 ? samePartCall() : kind < 90 ? sameMarkCall() : sameQuestion();
    }

    private boolean sameRow() {
        int part = somePart();
        int number = draw(0, random.nextBoolean() ? 30 : 255);
        int time = draw(0, random.nextBoolean() ? 300 : 100000);
        boolean sound = random.nextInt(5) != 0;
        return same("row(" + part + ", " + number + ", " + time + ", " + sound + ")",
            () -> x.row(part, number, time, sound), model.row(part, number, time, sound));
    }

    private boolean samePartCall() {
        int part = somePart();
        switch (random.nextInt(10)) {
            case 0:
                return same("end(" + part + ")", () -> x.end(part), model.end(part));
            case 1: case 2: case 3:
                int place = draw(Math.min(39, Math.max(0, model.told(part, 0))), 39);
                return same("split(" + part + ", " + place + ")", () -> x.split(part, place), model.split(part, place));
            default:
                int share = draw(1, 9);
                return same("part(" + share + ")", () -> x.part(share), model.part(share));
        }
    }

    private boolean sameMarkCall() {
        switch (random.nextInt(keep ? 11 : 12)) {
            case 0: case 1: case 2: case 3:
                return same("mark()", x::mark, model.mark());
            case 4: case 5: case 6:
                int mark = draw(0, Math.max(0, model.count(2) - 1));
                return same("restore(" + mark + ")", () -> x.restore(mark), model.restore(mark));
            case 7:
                int time = draw(0, random.nextBoolean() ? 300 : 100000);
                return same("start(" + time + ")", () -> x.start(time), model.start(time));
            case 11:
                return same("clear()", x::clear, model.clear());
            default:
                int n = draw(1, 6);
                return same("scale(" + n + ")", () -> x.scale(n), model.scale(n));
        }
    }

    private boolean sameQuestion() {
        int part = somePart();
        int what = draw(0, 9);
        int place = draw(0, 39);
        int i = draw(0, Math.max(0, model.count(5) - 1));
        return same("told(" + part + ", " + what + ")", () -> x.told(part, what), model.told(part, what))
            && same("number(" + part + ", " + place + ")", () -> x.number(part, place), model.number(part, place))
            && same("aside(" + i + ", " + what + ")", () -> x.aside(i, what), model.aside(i, what))
            && same("rate(" + part + ")", () -> x.rate(part), model.rate(part))
            && same("given(" + i + ")", () -> x.given(i), model.given(i))
            && same("latest(" + what + ")", () -> x.latest(what), model.latest(what))
            && same("count(" + what + ")", () -> x.count(what), model.count(what))
            && same("water()", x::water, model.water());
    }

    private boolean sameState() {
        int asked = calls.size();
        boolean same = same("water()", x::water, model.water());
        for (int i = -1; i <= 10; i++) {
            int what = i;
            same &= same("count(" + what + ")", () -> x.count(what), model.count(what));
            same &= same("latest(" + what + ")", () -> x.latest(what), model.latest(what));
        }
        for (int i = -1; i <= 256; i++) {
            int number = i;
            same &= same("given(" + number + ")", () -> x.given(number), model.given(number));
        }
        for (int i = -1; i <= 100; i++) {
            int place = i;
            same &= same("aside(" + place + ", 0)", () -> x.aside(place, 0), model.aside(place, 0));
            same &= same("aside(" + place + ", 1)", () -> x.aside(place, 1), model.aside(place, 1));
        }
        for (int part = -1; part <= 12; part++) {
            same &= samePart(part);
        }
        // The questions change nothing, so the run is told without them.
        while (calls.size() > asked) {
            calls.remove(calls.size() - 1);
        }
        return same;
    }

    private boolean samePart(int part) {
        boolean same = same("rate(" + part + ")", () -> x.rate(part), model.rate(part));
        for (int i = -1; i <= 10; i++) {
            int what = i;
            same &= same("told(" + part + ", " + what + ")", () -> x.told(part, what), model.told(part, what));
        }
        for (int i = -1; i <= 40; i++) {
            int place = i;
            same &= same("number(" + part + ", " + place + ")", () -> x.number(part, place), model.number(part, place));
        }
        return same;
    }
}
