import java.io.IOException;
import java.nio.file.Files;
import java.nio.file.Path;
import java.util.List;
import java.util.regex.Pattern;

/** Looks at the program's source for what ../shared/LANGUAGE.md forbids, as far as words can tell it. */
public final class LanguageTest {
    private static final Path SOURCE = Path.of("src/main/java/BeamTraining.java");

    private static final String[] FORBIDDEN = {
        "\\bimport\\b", "\\bpackage\\b", "\\btry\\b", "\\bcatch\\b", "\\bfinally\\b", "\\bthrows?\\b", "\\bassert\\b",
        "\\bsynchronized\\b", "\\bvolatile\\b", "->", "::", "\\bFloat\\b", "\\bDouble\\b", "\\bSystem\\b", "\\bThread\\b",
        "\\bRandom\\b", "Exact\\b", "\\bequals\\b", "\\bhashCode\\b", "\\btoString\\b", "static \\{", "@",
        "\\bMath\\.(?!floorDiv|floorMod)", "\\bprotected\\b", "while \\(true\\)", "for \\(;;\\)"
    };

    private static int wrong = 0;

    private static void bad(int line, String why) {
        wrong++;
        System.out.println(SOURCE + ":" + line + ": " + why);
    }

    private static void words(List<String> lines) {
        for (String forbidden : FORBIDDEN) {
            Pattern pattern = Pattern.compile(forbidden);
            for (int i = 0; i < lines.size(); i++) {
                if (pattern.matcher(code(lines.get(i))).find()) bad(i + 1, "'" + forbidden + "' is forbidden");
            }
        }
    }

    private static String code(String line) {
        String stripped = line.strip();
        return stripped.startsWith("//") || stripped.startsWith("/*") || stripped.startsWith("*") ? "" : line;
    }

    private static void signs(List<String> lines) {
        for (int i = 0; i < lines.size(); i++) {
            if (!lines.get(i).chars().allMatch(c -> c >= 32 && c <= 126)) bad(i + 1, "a sign that is not plain");
        }
    }

    /** Each object is made in a field's initialiser or in a constructor: no call makes one. */
    private static void objects(List<String> lines) {
        for (int i = 0; i < lines.size(); i++) {
            String line = code(lines.get(i));
            boolean field = line.matches("\\s*(private )?(static )?final .*");
            boolean element = line.matches("\\s*(saved\\[i\\] = new State|paths\\[p\\] = new Path)\\(\\);");
            if (line.contains("new ") && !field && !element) bad(i + 1, "an object is made in a call");
        }
    }

    private static void lengths(List<String> lines) {
        int start = -1;
        String indent = "";
        for (int i = 0; i < lines.size(); i++) {
            String line = lines.get(i);
            if (start < 0 && line.matches("    (    )?[A-Za-z].*\\) \\{")) {
                start = i;
                indent = line.substring(0, line.length() - line.stripLeading().length());
            } else if (start >= 0 && line.equals(indent + "}")) {
                if (i - start > 60) bad(start + 1, "a method of more than 60 lines");
                start = -1;
            }
        }
    }

    public static void main(String[] args) throws IOException {
        List<String> lines = Files.readAllLines(SOURCE);
        words(lines);
        signs(lines);
        objects(lines);
        lengths(lines);
        System.out.println(wrong == 0 ? "the source keeps to the rules that were looked at" : wrong + " faults");
        if (wrong != 0) System.exit(1);
    }
}
