import java.io.IOException;
import java.nio.file.Files;
import java.nio.file.Path;
import java.util.List;
import java.util.Set;
import java.util.regex.Matcher;
import java.util.regex.Pattern;

/** The rules of LANGUAGE.md that the text of the class shows; run from the project's folder, as .ci/run does. */
public final class LanguageTest {
    private static final Path CLASS = Path.of("src", "main", "java", "BudgetKernel.java");
    private static final Set<String> IMPORTS = Set.of("java.util.NoSuchElementException", "java.util.ArrayList",
            "java.util.List", "java.util.Arrays", "java.util.Iterator");
    private static final Set<String> EXCEPTIONS = Set.of("IllegalStateException", "IllegalArgumentException",
            "IndexOutOfBoundsException", "ArithmeticException", "UnsupportedOperationException",
            "NoSuchElementException", "RuntimeException");
    private static final List<String> NEVER = List.of("->", "::", "finally", "synchronized", "assert", "getMessage",
            "hashCode", "Thread", "Random", "currentTimeMillis", "nanoTime", "getenv", "java.io", "java.nio");
    private static final int LONGEST_METHOD = 60;

    public static void main(String[] args) throws IOException {
        String code = withoutComments(Files.readString(CLASS));
        importsAreListed(code);
        nothingElseIsUsed(code);
        throwsAreOfTheList(code);
        staticsAreConstants(code);
        methodsAreShort(code);
        Check.end();
    }

    private static String withoutComments(String text) {
        return text.replaceAll("(?s)/\\*.*?\\*/", "").replaceAll("//[^\n]*", "").replaceAll("\"[^\"\n]*\"", "\"\"");
    }

    /** The introduction ("without a package line") and rule 4. */
    private static void importsAreListed(String code) {
        Matcher found = Pattern.compile("import\\s+([\\w.*]+)\\s*;").matcher(code);
        while (found.find()) {
            Check.isTrue("import of " + found.group(1), IMPORTS.contains(found.group(1)));
        }
        Check.isTrue("no package", !code.contains("package "));
    }

    /** Rules 2, 4, 6 and 13. */
    private static void nothingElseIsUsed(String code) {
        for (String word : NEVER) {
            Check.isTrue("no " + word, !code.contains(word));
        }
        Check.isTrue("no function that ends in Exact", !Pattern.compile("\\w+Exact\\(").matcher(code).find());
    }

    /** Rule 6: a throw makes one of the listed exceptions, with a written text or none. */
    private static void throwsAreOfTheList(String code) {
        int all = code.split("\\bthrow\\b", -1).length - 1;
        int good = 0;
        Matcher found = Pattern.compile("\\bthrow new (\\w+)\\((\"\")?\\);").matcher(code);
        while (found.find()) {
            good += EXCEPTIONS.contains(found.group(1)) ? 1 : 0;
        }
        Check.same("throws of the list", good, all);
    }

    /** Rule 5. */
    private static void staticsAreConstants(String code) {
        Check.isTrue("no static block", !Pattern.compile("static\\s*\\{").matcher(code).find());
        Matcher field = Pattern.compile("static (final )?(\\w+(\\[\\])?) \\w+ =").matcher(code);
        while (field.find()) {
            Check.isTrue("a constant: " + field.group(), field.group(1) != null && field.group(2).equals("int"));
        }
    }

    /** Rule 11: a method ends where its indentation comes back. */
    private static void methodsAreShort(String code) {
        Matcher method = Pattern.compile("(?m)^( {4}| {8})\\w[\\w\\[\\] ]*\\([^;]*?\\{\n((?s).*?)^\\1\\}").matcher(code);
        int methods = 0;
        while (method.find()) {
            methods++;
            int lines = method.group(2).split("\n").length;
            Check.isTrue("a method of " + lines + " lines: " + method.group().lines().findFirst().get(),
                    lines <= LONGEST_METHOD);
        }
        Check.isTrue("methods were found", methods > 12);
    }
}
