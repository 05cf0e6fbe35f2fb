import java.io.IOException;
import java.nio.file.Files;
import java.nio.file.Path;
import java.util.HashMap;
import java.util.Map;
import java.util.function.IntPredicate;
import java.util.function.Supplier;

/**
 * Tests of single sentences of ../shared/DOC.md. Each test says which sentence it is of, and counts for itself:
 * it prints one line that begins with "passed: " or "FAILED: ". A sentence that its section of the document does
 * not have, word by word, is a failed test too.
 */
abstract class Sentences {
    static final int OMNI = -1, NONE = -100000, BAD_INDEX = -100001, BAD_VALUE = -100002, BAD_STATE = -100003, FULL = -100004;
    static final int LEAST = Integer.MIN_VALUE, MOST = Integer.MAX_VALUE;

    interface Call {
        long on(BeamTraining x);
    }

    interface Setter {
        long on(BeamTraining x, int value);
    }

    private static final Map<String, String> DOCUMENT = readDocument();
    private static String section = "";
    private static int wrong = 0;
    private static int failed = 0;

    // ---- sections and tests

    private static Map<String, String> readDocument() {
        Map<String, String> sections = new HashMap<>();
        String title = "";
        try {
            for (String line : Files.readAllLines(Path.of("../shared/DOC.md"))) {
                boolean heads = line.startsWith("#") || line.equals("Undo, errors");
                if (heads) title = line.replaceFirst("^#+ ", "");
                else sections.merge(title, line.strip().replaceAll(" +", " ") + " ", String::concat);
            }
        } catch (IOException e) {
            System.out.println("../shared/DOC.md can't be read");
        }
        return sections;
    }

    /** The tests that follow are of sentences of this section of the document. */
    static void section(String title) {
        section = title;
    }

    static void test(String sentence, Runnable checks) {
        wrong = 0;
        if (!DOCUMENT.getOrDefault(section, "").contains(sentence)) tell("the document has no such sentence there");
        try {
            checks.run();
        } catch (RuntimeException | StackOverflowError e) {
            tell("it threw " + e);
        }
        if (wrong > 0) failed++;
        System.out.println((wrong == 0 ? "passed: " : "FAILED: ") + section + ": " + sentence);
    }

    static void end() {
        if (failed > 0) System.exit(1);
    }

    // ---- checks

    /** After some wrong answers of a test more of them would tell nothing new. */
    private static void tell(String what) {
        wrong++;
        if (wrong <= 10) System.out.println("  " + what);
    }

    static void due(String call, long got, long want) {
        if (got != want) tell(call + " answered " + got + ", due is " + want);
    }

    /** The call is refused with this answer, and all that can be asked afterwards is as if it had not been made. */
    static void refused(String name, int answer, Supplier<BeamTraining> setup, Call call) {
        BeamTraining x = setup.get();
        due(name, call.on(x), answer);
        if (!picture(x).equals(picture(setup.get()))) tell(name + " has changed something");
    }

    static void refused(String name, int answer, Call call) {
        refused(name, answer, Sentences::linked, call);
    }

    /** The call changes nothing that can be asked, whatever it answers. */
    static void asksOnly(String name, Call call) {
        BeamTraining x = linked();
        call.on(x);
        if (!picture(x).equals(picture(linked()))) tell(name + " has changed something");
    }

    /** Each value from low to high is taken, and seen afterwards; those beside them are refused. */
    static void range(String name, int low, int high, Setter set, Call seen) {
        for (int value = low; value <= high; value++) {
            BeamTraining x = linked();
            due(name + " takes " + value + ": an error", set.on(x, value) < NONE ? 1 : 0, 0);
            due(name + " has taken " + value, seen.on(x), value);
        }
        outside(name, low, high, BAD_VALUE, set);
    }

    /** The values beside a range are refused with this answer. */
    static void outside(String name, int low, int high, int answer, Setter set) {
        for (int value : new int[] {low - 1, low - 2, high + 1, high + 2, LEAST, MOST}) {
            refused(name + " with " + value, answer, x -> set.on(x, value));
        }
    }

    /** Station 0 and station 1 are taken, the numbers beside them are refused. */
    static void eachStation(String name, Setter call) {
        for (int station = 0; station < 2; station++) {
            due(name + " of station " + station + " is an error", call.on(linked(), station) < NONE ? 1 : 0, 0);
        }
        refused(name + " of station -1", BAD_INDEX, x -> call.on(x, -1));
        refused(name + " of station 2", BAD_INDEX, x -> call.on(x, 2));
    }

    /** No other station is there, on an object with all there can be and on a new one. */
    static void noSuchStation(String name, Setter call) {
        outside(name, 0, 1, BAD_INDEX, call);
        for (int station : new int[] {LEAST, -1, 2, MOST}) {
            refused(name + " of station " + station + " at first", BAD_INDEX, BeamTraining::new, x -> call.on(x, station));
        }
    }

    /** Numbers from 0 that are there are taken, also the last one; the ones beside them are refused. */
    static void each(String name, int many, Supplier<BeamTraining> setup, Setter call) {
        for (int value = 0; value < many; value++) {
            due(name + " of " + value + " is an error", call.on(setup.get(), value) < NONE ? 1 : 0, 0);
        }
        refused(name + " before the first", BAD_INDEX, setup, x -> call.on(x, -1));
        refused(name + " behind the last of " + many, BAD_INDEX, setup, x -> call.on(x, many));
    }

    /** No number beside the ones from 0 is there. */
    static void noSuch(String name, int many, Supplier<BeamTraining> setup, Setter call) {
        for (int value : new int[] {LEAST, -2, -1, many, many + 1, MOST}) {
            refused(name + " of " + value, BAD_INDEX, setup, x -> call.on(x, value));
        }
    }

    /** The call is no error, and undo() brings back what was before it. */
    static void undone(String name, Supplier<BeamTraining> setup, Call call) {
        BeamTraining x = setup.get();
        long before = x.digest();
        due(name + " is an error", call.on(x) < NONE ? 1 : 0, 0);
        BeamTraining twice = setup.get();
        call.on(twice);
        due(name + " saves one state", twice.undo() >= 0 ? 1 : 0, 1);
        due("undo() of " + name, twice.digest(), before);
        due(name + " changes something", x.digest() == before ? 1 : 0, 0);
    }

    static void undone(String name, Call call) {
        undone(name, Sentences::linked, call);
    }

    // ---- objects

    static void typeInto(BeamTraining x, String text) {
        x.clearText();
        for (int i = 0; i < text.length(); i++) due("type", x.type(text.charAt(i)), i + 1);
    }

    static BeamTraining typed(String text) {
        BeamTraining x = new BeamTraining();
        typeInto(x, text);
        return x;
    }

    /** An object with all that there can be: a link, a text, a drift, a block, two backups, a failure, six saved states. */
    static BeamTraining linked() {
        BeamTraining x = typed("path 1 2 3;fade 4");
        x.addPath(0, 0, 40);
        x.addPath(16, 48, 60);
        x.addPath(32, 32, 70);
        x.sweep(1);
        x.survey(4);
        x.setDrift(1, 1, -1);
        x.setBlock(2, 5);
        x.setRecovery(3, true);
        x.setThreshold(73);
        x.pass(1);
        x.setThreshold(-3);
        x.setFade(2, 77);
        x.setTracking(true, 9);
        return x;
    }

    /** Two stations with these numbers of sectors, both with the orientation 0 and the power 40, and one path at 0 and 0. */
    static BeamTraining stations(int sectors0, int sectors1, int loss) {
        BeamTraining x = new BeamTraining();
        x.setStation(0, sectors0, 0, 40);
        x.setStation(1, sectors1, 0, 40);
        x.addPath(0, 0, loss);
        return x;
    }

    /** One path at 0 and 0, whose best sectors are heard with the quality 36; a frame is heard if its fade is at most 36. */
    static BeamTraining onePath() {
        BeamTraining x = new BeamTraining();
        x.addPath(0, 0, 40);
        return x;
    }

    /** A link over one path, with the present beams 0 and 0. */
    static BeamTraining onePathUp() {
        BeamTraining x = onePath();
        x.sweep(0);
        return x;
    }

    /** Such a link, which fades from now on. */
    static BeamTraining fading(int amplitude, int seed) {
        BeamTraining x = onePathUp();
        x.setFade(amplitude, seed);
        return x;
    }

    /** All that an object can be asked, as text; it is used up by that, for undo() and load() are asked too. */
    static String picture(BeamTraining x) {
        StringBuilder all = new StringBuilder();
        all.append(x.digest()).append(" fault ").append(x.textFault());
        int left = 0;
        for (int i = 0; i < 8 && left >= 0; i++) {
            left = x.undo();
            all.append(" undo ").append(left).append(' ').append(x.digest());
        }
        all.append(" load ").append(x.load()).append(' ').append(x.digest());
        return all.append(" text ").append(x.clearText()).toString();
    }

    /** An object with so many paths, each with directions and a loss of its own. */
    static BeamTraining withPaths(int many) {
        BeamTraining x = new BeamTraining();
        for (int path = 0; path < many; path++) x.addPath(path, 63 - path, 10 * path);
        return x;
    }

    static void event(BeamTraining x, int event, int kind, int value, int interval) {
        due("eventKind(" + event + ")", x.eventKind(event), kind);
        due("eventValue(" + event + ")", x.eventValue(event), value);
        due("eventInterval(" + event + ")", x.eventInterval(event), interval);
    }

    static void backup(BeamTraining x, int number, int beam0, int beam1, int quality) {
        due("backupBeam(" + number + ", 0)", x.backupBeam(number, 0), beam0);
        due("backupBeam(" + number + ", 1)", x.backupBeam(number, 1), beam1);
        due("backupQuality(" + number + ")", x.backupQuality(number), quality);
    }

    // ---- the document's formulas

    static int turn(int direction) {
        return Math.floorMod(direction, 64);
    }

    static int angle(int one, int other) {
        return Math.min(turn(one - other), turn(other - one));
    }

    static int wide(int d) {
        return Math.max(-40, 36 - d * d);
    }

    static int narrow(int d) {
        return Math.max(-40, 48 - 3 * d * d);
    }

    /** The fade of the frame with this number, counted from 1, after x was set. */
    static int fade(int amplitude, int x, int frame) {
        int value = x;
        for (int i = 0; i < frame; i++) value = value * 1664525 + 1013904223;
        return (value >>> 8) % (amplitude + 1);
    }

    /** The first x, from 0, with which something is so. */
    static int seed(IntPredicate so) {
        for (int x = 0; x < 1000000; x++) if (so.test(x)) return x;
        tell("no x was found");
        return 0;
    }

    /** The frames of the best sectors in the four phases of a sweep over one path, counted from 1. */
    static final int[] BEST_FRAMES = {8, 16, 17, 18};

    /** The first x with which a sweep over one path, with the amplitude 60, has this result. */
    static int seedOfResult(int result) {
        return seed(v -> {
            for (int phase = 1; phase <= 4; phase++) {
                if (fade(60, v, BEST_FRAMES[phase - 1]) > 36) return result == phase;
            }
            return result == 0;
        });
    }

    private static final float[] C = {1.0f, 1.0594631f, 1.122462f, 1.1892071f, 1.2599211f, 1.3348398f, 1.4142135f,
        1.4983071f, 1.587401f, 1.6817929f, 1.7817974f, 1.8877486f};

    static float power(int level) {
        return Math.scalb(C[Math.floorMod(level, 12)], Math.floorDiv(level, 12));
    }

    /** The quality of several paths with these levels, in this order. */
    static int quality(int... levels) {
        float sum = 0.0f;
        for (int level : levels) sum += power(level);
        int q = 400;
        while (power(q) > sum) q--;
        return q;
    }
}
