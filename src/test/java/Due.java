import java.lang.reflect.InvocationTargetException;
import java.lang.reflect.Method;
import java.lang.reflect.Modifier;
import java.util.Arrays;
import java.util.Comparator;

/** Compares answers with those that are due, and counts the wrong ones. */
final class Due {
    private int wrong;
    private int asked;
    private String test = "";

    /** A call that may throw. */
    interface Call {
        int answer();
    }

    /**
     * Runs every test of a class, so that none is forgotten: its static methods that take a Due. A test's name
     * stands ahead of what it finds.
     */
    static void run(Class<?> tests) {
        Due d = new Due();
        Method[] methods = tests.getDeclaredMethods();
        Arrays.sort(methods, Comparator.comparing(Method::getName));
        int ran = 0;
        for (Method method : methods) {
            if (isTest(method)) {
                d.runOne(tests, method);
                ran++;
            }
        }
        System.out.print(ran + " tests, ");
        d.finish();
    }

    private static boolean isTest(Method method) {
        return Modifier.isStatic(method.getModifiers()) && !method.isSynthetic()
            && method.getParameterCount() == 1 && method.getParameterTypes()[0] == Due.class;
    }

    private void runOne(Class<?> tests, Method method) {
        test = tests.getSimpleName() + "." + method.getName() + ": ";
        int before = asked;
        try {
            method.invoke(null, this);
        } catch (InvocationTargetException e) {
            fault("threw " + e.getCause());
        } catch (IllegalAccessException e) {
            fault("cannot be called");
        }
        if (asked == before) {
            fault("asks nothing");
        }
    }

    void promise(int number, String name) {
        test = "promise " + number + " (" + name + "): ";
    }

    void fault(String what) {
        wrong++;
        System.out.println(test + what);
    }

    void due(String call, long got, long want) {
        asked++;
        if (got != want) {
            fault(call + " answered " + got + ", due is " + want);
        }
    }

    void dueThrow(String call, Call made, Class<? extends RuntimeException> want) {
        String got;
        try {
            got = "answered " + made.answer();
        } catch (RuntimeException e) {
            got = e.getClass() == want ? "" : "threw " + e;
        }
        asked++;
        if (!got.isEmpty()) {
            fault(call + " " + got + ", due is throws." + want.getSimpleName());
        }
    }

    /** What told() answers of a PART, all of it, in the order of its numbers. */
    void dueTold(SourcePositions x, int part, int... want) {
        for (int what = 0; what < want.length; what++) {
            due("told(" + part + ", " + what + ")", x.told(part, what), want[what]);
        }
    }

    /** What count() answers, all of it. */
    void dueCounts(SourcePositions x, int... want) {
        for (int what = 0; what < want.length; what++) {
            due("count(" + what + ")", x.count(what), want[what]);
        }
    }

    void dueLatest(SourcePositions x, int... want) {
        for (int what = 0; what < want.length; what++) {
            due("latest(" + what + ")", x.latest(what), want[what]);
        }
    }

    void dueReads(SourcePositions x, int task, int... want) {
        for (int i = 0; i < want.length; i++) {
            due("read(" + task + ") no. " + (i + 1), x.read(task), want[i]);
        }
    }

    /** The same answer of so many reads, one behind the other. */
    void dueSameReads(SourcePositions x, int task, int times, int want) {
        for (int i = 1; i <= times; i++) {
            due("read(" + task + ") no. " + i, x.read(task), want);
        }
    }

    void finish() {
        System.out.println(asked + " answers, " + wrong + " not as due");
        if (wrong != 0 || asked == 0) {
            System.exit(1);
        }
    }
}
