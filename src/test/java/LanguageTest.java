import java.io.IOException;
import java.nio.file.Files;
import java.nio.file.Path;
import java.util.List;
import java.util.regex.Pattern;

/** Looks at the program's source for what ../shared/LANGUAGE.md forbids, as far as words can tell it. */
public final class LanguageTest {
    private static final Path SOURCE = Path.of("src/main/java/BeamTraining.java");

    private static final String[] FORBIDDEN = {
        "\\bpackage\\b", "\\bimport (?!java\\.util\\.(ArrayList|List|Arrays|Iterator|NoSuchElementException);)", "\\bfinally\\b",
        "\\bassert\\b", "\\bsynchronized\\b", "\\bvolatile\\b", "::", "\\bFloat\\b", "\\bDouble\\b", "\\bSystem\\b(?!\\.arraycopy)",
        "\\bThread\\b", "\\bRandom\\b", "Exact\\b", "\\bhashCode\\b", "static \\{", "\\bprotected\\b", "while \\(true\\)",
        "for \\(;;\\)", "\\bMath\\.(sqrt|pow|exp|log|sin|cos|tan|round|ceil|floor|rint|random|scalb|hypot|cbrt)\\b",
        "\\bcatch \\((final )?(Throwable|Error|Exception|RuntimeException|NullPointerException|ArithmeticException|"
            + "ClassCastException|NegativeArraySizeException|ArrayStoreException|\\w*IndexOutOfBoundsException)\\b",
        "\\bthrow e\\b", "\\bgetMessage\\b", "\\btry \\("
    };

    private static int wrong = 0;

    private static void bad(int line, String why) {
        wrong++;
        System.out.println(SOURCE + ":" + line + ": " + why);
    }

    private static void words(List<String> lines) {
        for (String forbidden : FORBIDDEN) {
            Pattern pattern = Pattern.compile(forbidden);
            for (int i = 0; i < lines.size(); i++) {
                if (pattern.matcher(code(lines.get(i))).find()) bad(i + 1, "'" + forbidden + "' is forbidden");
            }
        }
    }

    private static String code(String line) {
        String stripped = line.strip();
        return stripped.startsWith("//") || stripped.startsWith("/*") || stripped.startsWith("*") ? "" : line;
    }

    private static void lambdas(List<String> lines) {
        for (int i = 0; i < lines.size(); i++) {
            String line = code(lines.get(i)).strip();
            if (line.contains("->") && !line.startsWith("case ") && !line.startsWith("default ")) bad(i + 1, "a lambda");
        }
    }

    private static void signs(List<String> lines) {
        for (int i = 0; i < lines.size(); i++) {
            if (!lines.get(i).chars().allMatch(c -> c >= 32 && c <= 126)) bad(i + 1, "a sign that is not plain");
        }
    }

    private static void lengths(List<String> lines) {
        int start = -1;
        String indent = "";
        for (int i = 0; i < lines.size(); i++) {
            String line = lines.get(i);
            if (start < 0 && line.matches("    (    )?[A-Za-z].*\\) \\{")) {
                start = i;
                indent = line.substring(0, line.length() - line.stripLeading().length());
            } else if (start >= 0 && line.equals(indent + "}")) {
                if (i - start > 60) bad(start + 1, "a method of more than 60 lines");
                start = -1;
            }
        }
    }

    public static void main(String[] args) throws IOException {
        List<String> lines = Files.readAllLines(SOURCE);
        words(lines);
        lambdas(lines);
        signs(lines);
        lengths(lines);
        System.out.println(wrong == 0 ? "the source keeps to the rules that were looked at" : wrong + " faults");
        if (wrong != 0) System.exit(1);
    }
}
