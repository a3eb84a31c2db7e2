import java.lang.reflect.Constructor;
import java.lang.reflect.Field;
import java.lang.reflect.Method;
import java.lang.reflect.Modifier;
import java.util.ArrayList;
import java.util.Arrays;
import java.util.List;
import java.util.TreeSet;

/** The public face of the document: its constants, constructor and methods, and no other member that can be seen. */
public final class FaceTest {
    private static final String[] FACE = {
        "int NONE = -1", "int LOST = -2", "int ASIDE = -3", "int DOUBLE = -4",
        "int UNKNOWN = -11", "int OUTSIDE = -12", "int STATE = -13", "int FULL = -14",
        "SourcePositions()",
        "int part(int)", "int row(int, int, int, boolean)", "int end(int)", "int split(int, int)",
        "int give(int, int)", "int read(int)", "int latest(int)", "int lose(int, boolean)",
        "int mark()", "int restore(int)", "int start(int)", "int scale(int)", "int told(int, int)",
        "int given(int)",
        "int number(int, int) throws ArrayIndexOutOfBoundsException, NullPointerException",
        "int aside(int, int)", "int rate(int) throws NullPointerException",
        "int water()", "int count(int)", "int clear()",
    };

    public static void main(String[] args) throws IllegalAccessException {
        TreeSet<String> want = new TreeSet<>(Arrays.asList(FACE));
        TreeSet<String> got = new TreeSet<>();
        List<String> wrong = new ArrayList<>();
        TreeSet<String> hidden = new TreeSet<>();
        TreeSet<String> seen = new TreeSet<>();
        Class<?> type = SourcePositions.class;
        if (!Modifier.isPublic(type.getModifiers()) || !Modifier.isFinal(type.getModifiers())) {
            wrong.add("the class is not public and final");
        }
        for (Field field : type.getDeclaredFields()) {
            if (Modifier.isPrivate(field.getModifiers())) {
                continue;
            }
            if (field.getModifiers() != (Modifier.PUBLIC | Modifier.STATIC | Modifier.FINAL)) {
                wrong.add("not public static final: " + field);
                continue;
            }
            got.add("int " + field.getName() + " = " + field.getInt(null));
        }
        for (Constructor<?> made : type.getDeclaredConstructors()) {
            if (!Modifier.isPrivate(made.getModifiers())) {
                got.add("SourcePositions" + names(made.getParameterTypes(), "(", ")"));
            }
        }
        for (Method method : type.getDeclaredMethods()) {
            if (Modifier.isPrivate(method.getModifiers())) {
                hidden.add(method.getName());
                continue;
            }
            seen.add(method.getName());
            String thrown = method.getExceptionTypes().length == 0 ? "" : names(method.getExceptionTypes(), " throws ", "");
            got.add("int " + method.getName() + names(method.getParameterTypes(), "(", ")") + thrown);
            if (method.getModifiers() != Modifier.PUBLIC || method.getReturnType() != int.class) {
                wrong.add("not a plain public method of int: " + method);
            }
        }
        compare(want, got, "missing: ", wrong);
        compare(got, want, "too much: ", wrong);
        hidden.retainAll(seen);
        if (!hidden.isEmpty()) {
            wrong.add("private methods with the name of a public one: " + hidden);
        }
        wrong.forEach(System.out::println);
        System.out.println(got.size() + " members, " + wrong.size() + " faults");
        if (!wrong.isEmpty()) {
            System.exit(1);
        }
    }

    private static void compare(TreeSet<String> all, TreeSet<String> have, String what, List<String> wrong) {
        for (String member : all) {
            if (!have.contains(member)) {
                wrong.add(what + member);
            }
        }
    }

    private static String names(Class<?>[] types, String open, String close) {
        StringBuilder text = new StringBuilder(open);
        for (int i = 0; i < types.length; i++) {
            text.append(i == 0 ? "" : ", ").append(types[i].getSimpleName());
        }
        return text.append(close).toString();
    }
}
