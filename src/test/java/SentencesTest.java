import java.io.IOException;
import java.nio.file.DirectoryStream;
import java.nio.file.Files;
import java.nio.file.Path;
import java.util.ArrayList;
import java.util.LinkedHashMap;
import java.util.List;
import java.util.Map;
import java.util.regex.Matcher;
import java.util.regex.Pattern;

/**
 * Looks whether each sentence of ../shared/DOC.md that names a boundary is quoted by a test of its own in one of the
 * Boundary...Test files: of the promises each argument, each error, NONE and "Undoable."; of the description each range
 * in brackets, and each sentence but those that are listed here, which name no boundary.
 */
public final class SentencesTest {
    private static final String[] WITHOUT_BOUNDARY = {
        "Levels, losses, gains and qualities are ints", "All arithmetic with powers is float arithmetic",
        "A wide beam points to the direction of its sector", "When one station transmits with a beam",
        "Each frame that is sent has a fade", "A sweep has an initiator I and a responder R", "It has four phases",
        "1: I sends a sweep frame", "2: R sends a sweep frame", "3: I sends a feedback frame",
        "4: R sends an acknowledgement frame", "In each interval the following is done",
    };

    private static final String[] SECTIONS = {"Directions and levels", "Stations and beams", "Paths", "Frames", "Training",
        "Backups", "Intervals", "Events", "Text"};

    private static int wrong = 0;

    private static Map<String, String> document() throws IOException {
        Map<String, String> sections = new LinkedHashMap<>();
        String title = "";
        for (String line : Files.readAllLines(Path.of("../shared/DOC.md"))) {
            if (line.startsWith("#") || line.equals("Undo, errors")) title = line.replaceFirst("^#+ ", "");
            else sections.merge(title, line.strip().replaceAll(" +", " ") + " ", String::concat);
        }
        return sections;
    }

    /** The sentences that tests quote, by their section. */
    private static Map<String, List<String>> quotes() throws IOException {
        Map<String, List<String>> quotes = new LinkedHashMap<>();
        try (DirectoryStream<Path> files = Files.newDirectoryStream(Path.of("src/test/java"), "Boundary*Test.java")) {
            for (Path file : files) {
                String source = Files.readString(file).replaceAll("\"\\s*\\+ \"", "");
                Matcher calls = Pattern.compile("\\b(section|test)\\(\"((?:[^\"\\\\]|\\\\.)*)\"").matcher(source);
                String section = "";
                while (calls.find()) {
                    if (calls.group(1).equals("section")) section = calls.group(2);
                    else quotes.computeIfAbsent(section, s -> new ArrayList<>()).add(calls.group(2).replace("\\\"", "\""));
                }
            }
        }
        return quotes;
    }

    /** A piece is quoted if a quote stands in it, or it in a quote. */
    private static void quoted(String section, String piece, List<String> quotes) {
        for (String quote : quotes) if (quote.contains(piece) || piece.contains(quote)) return;
        wrong++;
        System.out.println("no test quotes, in " + section + ": " + piece);
    }

    /** The arguments of a promise, and the parts of what it returns. */
    private static List<String> piecesOfPromise(String text) {
        List<String> pieces = new ArrayList<>();
        Matcher arguments = Pattern.compile("`\\w+`: [^`]*?(?=  | - `|$)").matcher(text);
        while (arguments.find()) pieces.add(arguments.group().strip());
        Matcher errors = Pattern.compile("(BAD_\\w+|FULL|NONE) if [^;]*?(?=;|\\. )").matcher(text);
        while (errors.find()) pieces.add(errors.group());
        if (text.contains("Undoable.")) pieces.add("Undoable.");
        return pieces;
    }

    private static List<String> sentences(String text) {
        List<String> sentences = new ArrayList<>();
        for (String sentence : text.split("(?<=\\.\\)?) +(?=[A-Z(0-9])|(?<=phases:) ")) {
            boolean names = !sentence.isBlank();
            for (String without : WITHOUT_BOUNDARY) names &= !sentence.strip().startsWith(without);
            if (names) sentences.add(sentence.strip());
        }
        return sentences;
    }

    /** What stands in brackets and tells a range, a number of times, or what is there at first. */
    private static List<String> ranges(String text) {
        List<String> ranges = new ArrayList<>();
        Matcher brackets = Pattern.compile("\\([^()]*( to |at first|modulo|too early|is removed)[^()]*\\)").matcher(text);
        while (brackets.find()) ranges.add(brackets.group());
        return ranges;
    }

    public static void main(String[] args) throws IOException {
        Map<String, String> document = document();
        Map<String, List<String>> quotes = quotes();
        int promises = 0;
        for (String section : document.keySet()) {
            if (!section.startsWith("Promise ")) continue;
            promises++;
            if (!quotes.containsKey(section)) quoted(section, "anything", List.of());
            else for (String piece : piecesOfPromise(document.get(section))) quoted(section, piece, quotes.get(section));
        }
        for (String section : SECTIONS) {
            for (String sentence : sentences(document.get(section))) quoted(section, sentence, quotes.get(section));
            for (String range : ranges(document.get(section))) quoted(section, range, quotes.get(section));
        }
        System.out.println(wrong + " sentences of " + promises + " promises and " + SECTIONS.length + " sections have no test");
        if (wrong != 0 || promises != 46) System.exit(1);
    }
}
