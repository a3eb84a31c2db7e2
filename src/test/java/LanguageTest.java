import java.io.IOException;
import java.nio.file.Files;
import java.nio.file.Path;
import java.util.regex.Matcher;
import java.util.regex.Pattern;

/** What can be seen of ../shared/LANGUAGE.md in the text of the class itself, by the numbers of its rules. */
public final class LanguageTest {
    private static final Path SOURCE = Path.of("src/main/java/SourcePositions.java");
    private static final int LONGEST_METHOD = 60;
    private static final int MOST_CLASSES = 12;
    private static final int MOST_PARAMETERS = 7;
    private static final int FACE = 21;

    private static String code = "";

    public static void main(String[] args) throws IOException {
        code = withoutCommentsAndTexts(Files.readString(SOURCE));
        Due.run(LanguageTest.class);
    }

    /** So that words in comments and texts are not taken for code; lines stay lines. */
    private static String withoutCommentsAndTexts(String text) {
        return text.replaceAll("\"[^\"\n]*\"", "\"\"").replaceAll("(?s)/\\*.*?\\*/", "").replaceAll("//[^\n]*", "");
    }

    private static int howOften(String pattern) {
        Matcher found = Pattern.compile(pattern).matcher(code);
        int times = 0;
        while (found.find()) {
            times++;
        }
        return times;
    }

    private static void none(Due d, String pattern) {
        d.due("how often there is " + pattern, howOften(pattern), 0);
    }

    static void oneFileWithoutAPackage(Due d) {
        none(d, "\\bpackage\\b");
        none(d, "\\bimport\\b");
        none(d, "\\bjava\\.");
        d.due("public classes", howOften("\\bpublic final class\\b"), 1);
        none(d, "\\bprotected\\b");
    }

    static void rule2NoLambdaAndNoMethodReference(Due d) {
        none(d, "->");
        none(d, "::");
        d.due("classes inside that are not static", howOften("\\bclass\\b") - 1 - howOften("\\bstatic final class\\b"), 0);
    }

    static void rule3Types(Due d) {
        none(d, "\\b(double|float|Double|Float|Object|var)\\b");
        none(d, "\\[\\s*\\]\\s*\\[\\s*\\]\\s*\\[");
    }

    static void rule4TheLibrary(Due d) {
        none(d, "\\w+Exact\\b");
        d.due("System without arraycopy", howOften("\\bSystem\\.") - howOften("\\bSystem\\.arraycopy\\("), 0);
        d.due("Math without max and min", howOften("\\bMath\\.") - howOften("\\bMath\\.(max|min)\\("), 0);
    }

    static void rule5StaticFieldsAreFinal(Due d) {
        none(d, "\\bstatic\\s+(?!final\\b)[\\w\\[\\]]+\\s+\\w+\\s*[=;,]");
        none(d, "\\bstatic\\s*\\{");
    }

    /** The document names two classes of exceptions, in number() and rate(); these are thrown there and nowhere else. */
    static void rule6Exceptions(Due d) {
        none(d, "\\b(try|catch|finally|synchronized|assert|instanceof)\\b");
        none(d, "\\b(equals|hashCode|toString)\\b");
        d.due("throw", howOften("\\bthrow\\b"), 3);
        d.due("throw of an index", howOften("throw new ArrayIndexOutOfBoundsException\\(\"\"\\);"), 1);
        d.due("throw of what is null", howOften("throw new NullPointerException\\(\"\"\\);"), 2);
    }

    /** An array is made with a constant length, and a number is never divided but for rate(), behind a look at the divisor. */
    static void rule7LengthsAndDivisors(Due d) {
        d.due("arrays whose length is no constant", howOften("new \\w+\\[") - howOften("new \\w+\\[[A-Z_]+( \\+ 1)?\\]"), 0);
        d.due("divisions", howOften("[^/*]/[^/*]"), 1);
        d.due("the divisor is looked at", howOften("shares < 1 \\? 0 : [^;]* / shares;"), 1);
        none(d, "%");
    }

    static void rule9LoopsHaveACounter(Due d) {
        none(d, "\\bwhile\\b");
        d.due("loops without a bound", howOften("\\bfor\\b") - howOften("for \\(int i = \\w+; i <=? \\w+; i\\+\\+\\)"), 0);
    }

    static void rule11Sizes(Due d) {
        d.due("not too many classes", howOften("\\bclass\\b") <= MOST_CLASSES ? 1 : 0, 1);
        none(d, "\\(([^(),]+,){" + MOST_PARAMETERS + "}[^(),]+\\) (throws [\\w, ]+ )?\\{");
        // A method ends with the first bracket that stands as far in as its head does.
        String head = "(?m)^( +)(public|private) [^=;\n]*\\([^=;\n]*\\{\n";
        Matcher method = Pattern.compile(head + "(.*\n)*?\\1\\}$").matcher(code);
        int methods = 0;
        while (method.find()) {
            methods++;
            long lines = method.group().lines().count();
            d.due(lines + " lines are short: " + method.group().lines().findFirst().orElse("").strip(),
                lines <= LONGEST_METHOD ? 1 : 0, 1);
        }
        d.due("methods that were looked at", methods, howOften(head));
        d.due("the face is among them", methods > FACE ? 1 : 0, 1);
    }
}
