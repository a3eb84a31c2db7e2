/** Compares answers with those that are due, and counts the wrong ones. */
final class Due {
    private int wrong;
    private int asked;
    private String promise = "";

    /** A call that may throw. */
    interface Call {
        int answer();
    }

    void promise(int number, String name) {
        promise = "promise " + number + " (" + name + "): ";
    }

    void due(String call, long got, long want) {
        asked++;
        if (got != want) {
            wrong++;
            System.out.println(promise + call + " answered " + got + ", due is " + want);
        }
    }

    void dueThrow(String call, Call made, Class<? extends RuntimeException> want) {
        String got;
        try {
            got = "answered " + made.answer();
        } catch (RuntimeException e) {
            got = e.getClass() == want ? "" : "threw " + e;
        }
        asked++;
        if (!got.isEmpty()) {
            wrong++;
            System.out.println(promise + call + " " + got + ", due is throws." + want.getSimpleName());
        }
    }

    /** What told() answers of a PART, all of it, in the order of its numbers. */
    void dueTold(SourcePositions x, int part, int... want) {
        for (int what = 0; what < want.length; what++) {
            due("told(" + part + ", " + what + ")", x.told(part, what), want[what]);
        }
    }

    /** What count() answers, all of it. */
    void dueCounts(SourcePositions x, int... want) {
        for (int what = 0; what < want.length; what++) {
            due("count(" + what + ")", x.count(what), want[what]);
        }
    }

    void dueLatest(SourcePositions x, int... want) {
        for (int what = 0; what < want.length; what++) {
            due("latest(" + what + ")", x.latest(what), want[what]);
        }
    }

    void dueReads(SourcePositions x, int task, int... want) {
        for (int i = 0; i < want.length; i++) {
            due("read(" + task + ") no. " + (i + 1), x.read(task), want[i]);
        }
    }

    void finish() {
        System.out.println(asked + " answers, " + wrong + " not as due");
        if (wrong != 0) {
            System.exit(1);
        }
    }
}
