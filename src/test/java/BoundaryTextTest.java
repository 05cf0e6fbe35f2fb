import java.util.function.Supplier;

/** Boundaries of the text, of undo and errors, and of the promises 1 to 5 and 21. */
public final class BoundaryTextTest extends Sentences {

    /** The text has this fault, and load() refuses it; or it has none, and load() takes it. */
    private static void fault(String text, int want) {
        BeamTraining x = typed(text);
        due("textFault() of '" + text + "'", x.textFault(), want);
        if (want == NONE) due("load() of '" + text + "' is an error", x.load() < 0 ? 1 : 0, 0);
        else refused("load() of '" + text + "'", BAD_STATE, () -> typed(text), BeamTraining::load);
    }

    private static void good(String... texts) {
        for (String text : texts) fault(text, NONE);
    }

    /** As many items, with semicolons between them. */
    private static String times(int many, String item) {
        return (item + ";").repeat(many).replaceFirst(";$", "");
    }

    // ---- the text

    private static void atMost120Bytes() {
        String full = times(10, "path1 1 1 ") + " ".repeat(11);
        due("the full text's length", full.length(), 120);
        BeamTraining x = typed("fade 7" + " ".repeat(113));
        due("textFault() of 119 bytes", x.textFault(), NONE);
        due("byte 120", x.type('8'), 120);
        due("textFault() of 120 bytes", x.textFault(), 119);
        due("byte 121", x.type('8'), FULL);
        due("clearText()", x.clearText(), 120);
        typeInto(x, " ".repeat(114) + "fade 7");
        due("load() of 120 bytes", x.load(), 0);
        due("the amplitude from the last byte", x.setFade(0, 0), 7);
        fault(full, 88);
    }

    private static void itemsAndSemicolons() {
        good("fade 1", "fade 1;fade 2", "fade 1 ; fade 2;fade 3", times(20, "fade5"));
        fault(";", 0);
        fault(";fade 1", 0);
        fault("fade 1;", 7);
        fault("fade 1;;fade 1", 7);
        fault("fade 1 fade 1", 7);
        fault("fade 1,fade 1", 6);
        fault("fade 1:", 6);
        fault("fade 1;1", 7);
        fault("drift 1 1", 0);
        fault("sector 1", 0);
        fault("1", 0);
    }

    private static void wholeStationItems() {
        good("station 0 2 0 0", "station 1 16 63 100");
        fault("station", 7);
        fault("station 1", 9);
        fault("station 1 8", 11);
        fault("station 1 8 0", 13);
        fault("station 1 8 0 40 1", 17);
        fault("station;", 7);
        fault("station 1 8 0;", 13);
    }

    private static void wholePathItems() {
        good("path 0 0 0", "path 63 63 300", "path 1 2 3 drift 1 2", "path 1 2 3 drift -1 -2");
        fault("path", 4);
        fault("path 1", 6);
        fault("path 1 2", 8);
        fault("path 1 2 3 4", 11);
        fault("path 1 2 3 drift", 16);
        fault("path 1 2 3 drift 1", 18);
        fault("path 1 2 3 drift 1 2 3", 21);
        fault("path 1 2 3 drift 1 2 drift 1 2", 21);
        fault("path 1 2 drift 1 2", 9);
        fault("path drift 1 2", 5);
        fault("path 1 2 3 -1 2", 11);
        fault("path 1 2 3 drift;", 16);
        BeamTraining x = typed("path 9 9 9;path 9 9 9 drift 3 -3");
        due("load()", x.load(), 2);
        x.pass(1);
        due("a path without drift", x.pathDirection(0, 0), 9);
        due("a path with drifts at station 0", x.pathDirection(1, 0), 12);
        due("a path with drifts at station 1", x.pathDirection(1, 1), 6);
    }

    private static void wholeSettingItems() {
        good("threshold 0", "fade 0", "patience 1");
        fault("threshold", 9);
        fault("fade", 4);
        fault("patience", 8);
        fault("threshold -", 11);
        fault("threshold 1 1", 12);
        fault("fade 1 1", 7);
        fault("patience 1 1", 11);
    }

    private static void oneSignAtMost() {
        good("threshold -1", "threshold 1", "threshold - 1", "threshold-1", "threshold -0", "path 1 1 1 drift-1-1");
        fault("threshold --1", 11);
        fault("threshold - -1", 12);
        fault("threshold +1", 10);
        fault("threshold 1-", 11);
        fault("path 1 1 1 drift 1 --1", 20);
        fault("path -1 1 1", 5);
        fault("path 1 -1 1", 7);
        fault("path 1 1 -1", 9);
        fault("path 1 1 -0", 9);
        fault("station -0 8 0 40", 8);
        fault("station 0 -8 0 40", 10);
        fault("station 0 8 -0 40", 12);
        fault("station 0 8 0 -40", 14);
        fault("fade -0", 5);
        fault("patience -1", 9);
        BeamTraining x = typed("threshold - 7");
        x.load();
        due("the threshold", x.setThreshold(0), -7);
    }

    private static void tokens() {
        fault("fadefade 1", 0);
        fault("fa de 1", 0);
        fault("fadez 1", 0);
        fault("afade 1", 0);
        fault("fad 1", 0);
        fault("fade`1", 4);
        fault("fade{1", 4);
        fault("fade 1a", 6);
        fault("fade 1z", 6);
        fault("fade 1/", 6);
        fault("fade 1:", 6);
        fault("fade 1 2", 7);
        fault("fade /1", 5);
        fault("fade :1", 5);
        fault("FADE 1", 0);
        fault("fade 1A", 6);
        for (char other : new char[] {0, 9, 10, 31, 33, 127, 128, 160, 255}) {
            fault("fade 1 " + other + " ", 7);
            fault("fade" + other + "1", 4);
            fault(other + "fade 1", 0);
        }
        good("fade1;fade2", "fade00", "fade 0");
    }

    private static void blanks() {
        good("fade1", " fade1", "fade1 ", "   fade   1   ;   fade   2   ", "path1 1 1drift1 1", "path1 1 1drift-1-1",
            "station0 2 0 0;patience9;threshold-200", "threshold - 200", "path 1 1 1 drift 1 - 1");
        fault("path1 11", 8);
        fault("path11 1", 8);
        fault("path 1 1 1 driftpath", 11);
        fault("fade 1 1", 7);
        fault("fade11", NONE);
        BeamTraining x = typed("fade11");
        x.load();
        due("two digits without a blank are one number", x.setFade(0, 0), 11);
    }

    private static void oneToThreeDigits() {
        good("fade 0", "fade 00", "fade 000", "fade 060", "path 063 001 300", "station 001 016 000 000", "threshold -000");
        fault("fade ", 5);
        fault("fade 0000", 5);
        fault("fade 0001", 5);
        fault("fade 00000000000000000000000000000001", 5);
        fault("fade 4294967297", 5);
        fault("path 1 1 0300", 9);
        fault("threshold -0001", 11);
        BeamTraining x = typed("fade 007");
        x.load();
        due("a number with zeros before it", x.setFade(0, 0), 7);
    }

    /** The number stands between two pieces of text; low and high are taken, what is beside them is its fault. */
    private static void numbers(String before, int low, int high, String after) {
        for (int value = Math.max(0, low); value <= high; value++) fault(before + value + after, NONE);
        for (int value = low; value < 0; value++) fault(before + value + after, NONE);
        fault(before + (high + 1) + after, before.length());
        fault(before + 999 + after, before.length());
        if (low > 0) fault(before + (low - 1) + after, before.length());
        if (low < 0) fault(before + (low - 1) + after, before.length() + 1);
        if (low < 0) fault(before + "-999" + after, before.length() + 1);
    }

    private static void rangesOfNumbers() {
        numbers("station ", 0, 1, " 8 0 40");
        numbers("station 1 ", 2, 16, " 0 40");
        numbers("station 1 8 ", 0, 63, " 40");
        numbers("station 1 8 0 ", 0, 100, "");
        numbers("path ", 0, 63, " 0 0");
        numbers("path 0 ", 0, 63, " 0");
        numbers("path 0 0 ", 0, 300, "");
        numbers("path 0 0 0 drift ", -3, 3, " 0");
        numbers("path 0 0 0 drift 0 ", -3, 3, "");
        numbers("threshold ", -200, 200, "");
        numbers("fade ", 0, 60, "");
        numbers("patience ", 1, 9, "");
    }

    private static void orderOfStationNumbers() {
        for (int station = 0; station < 2; station++) {
            BeamTraining x = typed("station " + station + " 5 6 7;path 6 6 0");
            due("load()", x.load(), 1);
            due("direction", x.direction(station, 0), 6);
            due("direction of the other one", x.direction(1 - station, 0), 0);
            due("quality from it", x.quality(station, -1, -1), 7);
            due("quality from the other one", x.quality(1 - station, -1, -1), 40);
            due("its sectors", x.setStation(station, 8, 0, 40), 5);
            due("those of the other one", x.setStation(1 - station, 8, 0, 40), 8);
        }
    }

    private static void orderOfPathNumbers() {
        BeamTraining x = typed("path 11 22 33 drift -1 2");
        due("load()", x.load(), 1);
        due("pathDirection(0, 0)", x.pathDirection(0, 0), 11);
        due("pathDirection(0, 1)", x.pathDirection(0, 1), 22);
        due("quality", x.quality(0, -1, -1), 7);
        x.pass(1);
        due("pathDirection(0, 0)", x.pathDirection(0, 0), 10);
        due("pathDirection(0, 1)", x.pathDirection(0, 1), 24);
    }

    private static void ninthPath() {
        BeamTraining x = typed(times(8, "path1 1 1"));
        due("textFault() of 8 paths", x.textFault(), NONE);
        due("load() of 8 paths", x.load(), 8);
        due("load() of 8 paths again", x.load(), 8);
        fault(times(9, "path1 1 1"), 80);
        fault(times(9, "path1 1 1") + ";path1 1 1;x", 80);
        BeamTraining y = new BeamTraining();
        for (int p = 0; p < 8; p++) y.addPath(p, p, p);
        typeInto(y, "path 1 2 3");
        due("the paths of before do not count", y.textFault(), NONE);
        due("load()", y.load(), 1);
    }

    private static void firstTokenThatIsNotAllowed() {
        fault("x", 0);
        fault("  x", 2);
        fault("fade 61;fade 61", 5);
        fault("fade 1;fade 61;patience 0", 12);
        fault("station 2 17 64 101", 8);
        fault("station 1 17 64 101", 10);
        fault("station 1 16 64 101", 13);
        fault("station 1 16 63 101", 16);
        fault("path 64 64 301", 5);
        fault("path 63 64 301", 8);
        fault("path 63 63 301", 11);
        fault("path 63 63 300 x 61", 15);
        fault("fade 60x", 7);
        fault("fade 1" + " ".repeat(113) + "x", 119);
    }

    private static void signedNumberOutOfRange() {
        fault("threshold -201", 11);
        fault("threshold - 201", 12);
        fault("threshold 201", 10);
        fault("path 1 1 1 drift -4 0", 18);
        fault("path 1 1 1 drift 0 -  4", 22);
        fault("path 1 1 1 drift 0 4", 19);
        fault("threshold -1000", 11);
    }

    private static void wordOfTheNinthPath() {
        String eight = times(8, "path1 1 1");
        fault(eight + ";path", 80);
        fault(eight + ";path 64 64 301", 80);
        fault(eight + ";  path 1 1 1", 82);
        fault(eight + ";fade 1;path 1 1 1", 87);
        fault(eight + ";pathx", 80);
        fault(eight + ";fade 1", NONE);
    }

    private static void textThatEndsTooEarly() {
        fault("", 0);
        fault(" ", 1);
        fault(" ".repeat(120), 120);
        fault("fade", 4);
        fault("fade  ", 6);
        fault("fade 1;  ", 9);
        fault("threshold -  ", 13);
        fault("path 1 2 3 drift 1 -", 20);
        fault(" ".repeat(119) + ";", 119);
        fault(" ".repeat(116) + "fade", 120);
    }

    // ---- undo, errors

    private static void textIsNotSaved() {
        BeamTraining x = typed("fade 1");
        x.setThreshold(5);
        x.type('2');
        due("undo()", x.undo(), 0);
        due("the threshold of before", x.setThreshold(0), 0);
        x.undo();
        due("load() of the text as it is", x.load(), 0);
        due("the amplitude", x.setFade(0, 0), 12);
        x.setThreshold(5);
        due("clearText()", x.clearText(), 7);
        x.undo();
        due("the text stays empty", x.textFault(), 0);
    }

    private static void savedEvenIfNothingChanges() {
        BeamTraining x = linked();
        long digest = x.digest();
        Call[] calls = {y -> y.rotate(0, 0), y -> y.setBlock(2, 5), y -> y.setDrift(1, 1, -1), y -> y.setThreshold(-3),
            y -> y.setTracking(true, 9), y -> y.setRecovery(3, true), y -> y.select(0, y.beam(0))};
        for (Call call : calls) {
            BeamTraining y = new BeamTraining();
            y.addPath(1, 1, 1);
            y.addPath(1, 1, 1);
            y.addPath(1, 1, 1);
            y.select(0, 0);
            due("a call that is no error", call.on(y) < NONE ? 1 : 0, 0);
            due("undo() of it", y.undo(), 4);
            call.on(x);
        }
        due("these calls change nothing", x.digest() == digest ? 1 : 0, 1);
        BeamTraining none = new BeamTraining();
        due("select that answers NONE", none.select(1, 5), NONE);
        due("undo() of it", none.undo(), 0);
        due("a sweep with the result 1", none.sweep(0), 1);
        due("undo() of it", none.undo(), 0);
        due("a survey without backups", none.survey(1), 0);
        due("undo() of it", none.undo(), 0);
        due("pass that answers 0", none.pass(1), 0);
        due("undo() of it", none.undo(), 0);
        due("undo() of nothing", none.undo(), BAD_STATE);
    }

    private static void sixSavedStates() {
        for (int calls = 0; calls <= 14; calls++) {
            BeamTraining x = new BeamTraining();
            for (int n = 1; n <= calls; n++) x.setThreshold(n);
            int kept = Math.min(6, calls);
            for (int n = 1; n <= kept; n++) {
                due("undo() " + n + " of " + calls + " calls", x.undo(), kept - n);
                BeamTraining same = new BeamTraining();
                same.setThreshold(calls - n);
                due("the state of before", x.digest(), same.digest());
            }
            due("undo() of no saved state after " + calls, x.undo(), BAD_STATE);
        }
    }

    private static void constants() {
        due("OMNI", BeamTraining.OMNI, OMNI);
        due("NONE", BeamTraining.NONE, NONE);
        due("BAD_INDEX", BeamTraining.BAD_INDEX, BAD_INDEX);
        due("BAD_VALUE", BeamTraining.BAD_VALUE, BAD_VALUE);
        due("BAD_STATE", BeamTraining.BAD_STATE, BAD_STATE);
        due("FULL", BeamTraining.FULL, FULL);
        BeamTraining x = new BeamTraining();
        due("beam", x.beam(0), BeamTraining.NONE);
        due("heard", x.heard(1, 7), BeamTraining.NONE);
        due("quality", x.quality(0, -1, -1), BeamTraining.NONE);
        due("shortfall", x.shortfall(), BeamTraining.NONE);
        due("outage of a link that stays", linked().outage(1), BeamTraining.NONE);
    }

    private static void badIndexOfEachKind() {
        for (int station : new int[] {-1, 2, LEAST, MOST}) {
            refused("setStation", BAD_INDEX, x -> x.setStation(station, 8, 0, 40));
            refused("rotate", BAD_INDEX, x -> x.rotate(station, 1));
            refused("sweep", BAD_INDEX, x -> x.sweep(station));
            refused("refine", BAD_INDEX, x -> x.refine(station));
            refused("select", BAD_INDEX, x -> x.select(station, 1));
            refused("beam", BAD_INDEX, x -> x.beam(station));
            refused("direction", BAD_INDEX, x -> x.direction(station, 1));
            refused("gain", BAD_INDEX, x -> x.gain(station, 1, 1));
            refused("heard", BAD_INDEX, x -> x.heard(station, 1));
            refused("pathDirection", BAD_INDEX, x -> x.pathDirection(0, station));
            refused("quality", BAD_INDEX, x -> x.quality(station, 1, 1));
            refused("backupBeam", BAD_INDEX, x -> x.backupBeam(0, station));
        }
        for (int other : new int[] {-1, 20, LEAST, MOST}) {
            refused("heard", BAD_INDEX, x -> x.heard(0, other));
            refused("share", BAD_INDEX, x -> x.share(other, 0));
            refused("shareBits", BAD_INDEX, x -> x.shareBits(0, other));
            refused("removePath", BAD_INDEX, x -> x.removePath(other));
            refused("setDrift", BAD_INDEX, x -> x.setDrift(other, 0, 0));
            refused("setBlock", BAD_INDEX, x -> x.setBlock(other, 0));
            refused("pathDirection", BAD_INDEX, x -> x.pathDirection(other, 0));
            refused("backupBeam", BAD_INDEX, x -> x.backupBeam(other, 0));
            refused("backupQuality", BAD_INDEX, x -> x.backupQuality(other));
            refused("eventKind", BAD_INDEX, x -> x.eventKind(other));
            refused("eventValue", BAD_INDEX, x -> x.eventValue(other));
            refused("eventInterval", BAD_INDEX, x -> x.eventInterval(other));
        }
    }

    private static void badValueOfEachCall() {
        for (int value : new int[] {LEAST, NONE, BAD_INDEX, -300, 401, MOST}) {
            refused("type", BAD_VALUE, x -> x.type(value));
            refused("setStation", BAD_VALUE, x -> x.setStation(0, value, 0, 40));
            refused("rotate", BAD_VALUE, x -> x.rotate(0, value));
            refused("addPath", BAD_VALUE, x -> x.addPath(value, 0, 0));
            refused("setDrift", BAD_VALUE, x -> x.setDrift(0, value, 0));
            refused("setBlock", BAD_VALUE, x -> x.setBlock(0, value));
            refused("setThreshold", BAD_VALUE, x -> x.setThreshold(value));
            refused("setFade", BAD_VALUE, x -> x.setFade(value, 1));
            refused("setTracking", BAD_VALUE, x -> x.setTracking(false, value));
            refused("setRecovery", BAD_VALUE, x -> x.setRecovery(value, false));
            refused("survey", BAD_VALUE, x -> x.survey(value));
            refused("select", BAD_VALUE, x -> x.select(0, value));
            refused("pass", BAD_VALUE, x -> x.pass(value));
            refused("direction", BAD_VALUE, x -> x.direction(0, value));
            refused("gain", BAD_VALUE, x -> x.gain(0, value, 0));
            refused("quality", BAD_VALUE, x -> x.quality(0, value, 0));
            refused("outage", BAD_VALUE, x -> x.outage(value));
        }
    }

    private static BeamTraining full() {
        BeamTraining x = typed("a".repeat(120));
        for (int path = 0; path < 8; path++) x.addPath(path, path, path);
        return x;
    }

    private static void badStateAndFull() {
        refused("refine without a link", BAD_STATE, BoundaryTextTest::full, x -> x.refine(0));
        refused("load of a text with a fault", BAD_STATE, BoundaryTextTest::full, BeamTraining::load);
        refused("undo of a new object", BAD_STATE, BeamTraining::new, BeamTraining::undo);
        refused("a ninth path", FULL, BoundaryTextTest::full, x -> x.addPath(0, 0, 0));
        refused("byte 121", FULL, BoundaryTextTest::full, x -> x.type(97));
    }

    private static void firstOfSeveralErrors() {
        refused("setStation", BAD_INDEX, x -> x.setStation(2, 1, 64, 101));
        refused("rotate", BAD_INDEX, x -> x.rotate(-1, 64));
        refused("setDrift", BAD_INDEX, x -> x.setDrift(3, 4, 4));
        refused("setBlock", BAD_INDEX, x -> x.setBlock(3, 201));
        refused("refine of a link that is down", BAD_INDEX, BeamTraining::new, x -> x.refine(2));
        refused("select", BAD_INDEX, x -> x.select(2, 48));
        refused("direction", BAD_INDEX, x -> x.direction(2, -1));
        refused("gain", BAD_INDEX, x -> x.gain(2, 48, 64));
        refused("quality", BAD_INDEX, x -> x.quality(2, 48, 48));
        refused("addPath with 8 paths", BAD_VALUE, BoundaryTextTest::full, x -> x.addPath(64, 0, 0));
        refused("addPath with 8 paths", BAD_VALUE, BoundaryTextTest::full, x -> x.addPath(0, -1, 0));
        refused("addPath with 8 paths", BAD_VALUE, BoundaryTextTest::full, x -> x.addPath(0, 0, 301));
        refused("type in a full text", BAD_VALUE, BoundaryTextTest::full, x -> x.type(256));
        refused("type in a full text", BAD_VALUE, BoundaryTextTest::full, x -> x.type(-1));
    }

    private static void noneOnlyWithoutError() {
        Supplier<BeamTraining> fresh = BeamTraining::new;
        due("quality without paths", new BeamTraining().quality(0, 0, 0), NONE);
        refused("quality of no station without paths", BAD_INDEX, fresh, x -> x.quality(2, 0, 0));
        refused("quality of no beam of station 0 without paths", BAD_VALUE, fresh, x -> x.quality(0, 48, 0));
        refused("quality of no beam of station 1 without paths", BAD_VALUE, fresh, x -> x.quality(0, 0, 48));
        due("share without paths", new BeamTraining().share(7, 7), NONE);
        refused("share of no sector without paths", BAD_INDEX, fresh, x -> x.share(8, 0));
        refused("share of no sector without paths", BAD_INDEX, fresh, x -> x.share(0, 8));
        due("shareBits without paths", new BeamTraining().shareBits(7, 7), NONE);
        refused("shareBits of no sector without paths", BAD_INDEX, fresh, x -> x.shareBits(-1, 0));
        refused("shareBits of no sector without paths", BAD_INDEX, fresh, x -> x.shareBits(0, -1));
        due("heard of an empty table", new BeamTraining().heard(0, 7), NONE);
        refused("heard of no sector", BAD_INDEX, fresh, x -> x.heard(0, 8));
        due("beam of a station without one", new BeamTraining().beam(1), NONE);
        refused("beam of no station", BAD_INDEX, fresh, x -> x.beam(2));
        due("select of a station without a beam", new BeamTraining().select(0, 47), NONE);
        refused("select of no beam", BAD_VALUE, fresh, x -> x.select(0, 48));
        due("outage of a link that stays", linked().outage(100), NONE);
        refused("outage of too many", BAD_VALUE, x -> x.outage(101));
    }

    /** Every call that can be refused, each refused in one way, on objects with nothing and with all there can be. */
    private static void errorsChangeNothing() {
        Call[] calls = {x -> x.type(256), x -> x.setStation(2, 8, 0, 40), x -> x.setStation(0, 8, 0, 101), x -> x.rotate(0, 64),
            x -> x.addPath(0, 0, 301), x -> x.removePath(8), x -> x.setDrift(8, 1, 1), x -> x.setBlock(8, 1),
            x -> x.setThreshold(201), x -> x.setFade(61, 9), x -> x.setTracking(true, 41), x -> x.setRecovery(10, true),
            x -> x.sweep(2), x -> x.refine(2), x -> x.survey(33), x -> x.select(0, 96), x -> x.pass(51), x -> x.beam(2),
            x -> x.direction(0, -1), x -> x.gain(0, 0, 64), x -> x.heard(0, 16), x -> x.pathDirection(8, 0),
            x -> x.quality(0, 0, 96), x -> x.share(16, 0), x -> x.shareBits(0, 16), x -> x.outage(101), x -> x.backupBeam(3, 0),
            x -> x.backupQuality(3), x -> x.eventKind(20), x -> x.eventValue(20), x -> x.eventInterval(20)};
        for (int n = 0; n < calls.length; n++) {
            int answer = (int) calls[n].on(new BeamTraining());
            due("call " + n + " is an error", answer < NONE ? 1 : 0, 1);
            refused("call " + n + " on a new object", answer, BeamTraining::new, calls[n]);
            refused("call " + n + " on a link", answer, calls[n]);
            refused("call " + n + " on a full object", answer, BoundaryTextTest::full, calls[n]);
        }
    }

    private static void beamsThatAStationDoesNotHave() {
        for (int sectors : new int[] {2, 9, 16}) {
            Supplier<BeamTraining> setup = () -> stations(sectors, sectors, 0);
            for (int beam : new int[] {LEAST, NONE, -2, 6 * sectors, 6 * sectors + 1, MOST}) {
                refused("select", BAD_VALUE, setup, x -> x.select(0, beam));
                refused("direction", BAD_VALUE, setup, x -> x.direction(1, beam));
                refused("gain", BAD_VALUE, setup, x -> x.gain(0, beam, 0));
                refused("quality with it at station 0", BAD_VALUE, setup, x -> x.quality(0, beam, -1));
                refused("quality with it at station 1", BAD_VALUE, setup, x -> x.quality(0, -1, beam));
            }
            BeamTraining x = setup.get();
            for (int beam : new int[] {0, 6 * sectors - 1}) {
                due("select is an error", x.select(0, beam) < NONE ? 1 : 0, 0);
                due("direction is an error", x.direction(1, beam) < 0 ? 1 : 0, 0);
                due("gain is an error", x.gain(0, beam, 0) < NONE ? 1 : 0, 0);
                due("quality is an error", x.quality(1, beam, beam) <= NONE ? 1 : 0, 0);
            }
        }
    }

    // ---- promises 1 to 5, and 21

    private static void nothingInANewObject() {
        BeamTraining x = new BeamTraining();
        due("pathCount()", x.pathCount(), 0);
        due("beam(0)", x.beam(0), NONE);
        due("beam(1)", x.beam(1), NONE);
        due("backupCount()", x.backupCount(), 0);
        due("eventCount()", x.eventCount(), 0);
        linked();
        full();
        due("another object stays apart", x.pathCount() + x.eventCount() + x.backupCount() + x.clearText(), 0);
        refused("undo of a new object", BAD_STATE, BeamTraining::new, BeamTraining::undo);
    }

    private static void emptyTextAtFirst() {
        due("clearText()", new BeamTraining().clearText(), 0);
        due("textFault()", new BeamTraining().textFault(), 0);
        due("the first type", new BeamTraining().type(32), 1);
    }

    private static void countersAtFirst() {
        BeamTraining x = new BeamTraining();
        due("interval()", x.interval(), 0);
        due("time()", x.time(), 0);
        due("frames()", x.frames(), 0);
    }

    private static void codesOfBytes() {
        for (int code = 0; code <= 255; code++) {
            BeamTraining x = new BeamTraining();
            due("type(" + code + ")", x.type(code), 1);
            due("textFault()", x.textFault(), code == 32 ? 1 : 0);
        }
    }

    private static void codesBesideBytes() {
        outside("type", 0, 255, BAD_VALUE, BeamTraining::type);
        refused("type of a new object", BAD_VALUE, BeamTraining::new, x -> x.type(-1));
        refused("type of a new object", BAD_VALUE, BeamTraining::new, x -> x.type(256));
    }

    private static void lengthOfTheText() {
        BeamTraining x = new BeamTraining();
        for (int n = 1; n <= 120; n++) due("type", x.type(97), n);
        x.clearText();
        due("type after clearText()", x.type(97), 1);
    }

    private static void noRoomForByte121() {
        refused("byte 121", FULL, BoundaryTextTest::full, x -> x.type(32));
        BeamTraining x = full();
        due("byte 121", x.type(97), FULL);
        due("and again", x.type(97), FULL);
        due("clearText()", x.clearText(), 120);
        due("the first byte after that", x.type(97), 1);
    }

    /** Whatever stood in the text before, a shorter one after clearText() is read as in a new object. */
    private static void nothingOfClearedTexts() {
        String whole = "station 1 9 12 40;path 10 20 30 drift -1 2;threshold -15;fade 6;patience 3;path 1 2 3";
        for (String former : new String[] {whole, "1".repeat(120), "h".repeat(120), ";".repeat(120), " ".repeat(120)}) {
            for (int length = 0; length <= whole.length(); length++) {
                BeamTraining anew = typed(whole.substring(0, length));
                BeamTraining x = typed(former);
                typeInto(x, whole.substring(0, length));
                due("textFault() of the first " + length + " bytes", x.textFault(), anew.textFault());
                due("load() of the first " + length + " bytes", x.load(), anew.load());
                due("digest() then", x.digest(), anew.digest());
            }
        }
    }

    private static void lengthsOfClearedTexts() {
        BeamTraining x = new BeamTraining();
        due("clearText() of an empty text", x.clearText(), 0);
        x.type(97);
        due("clearText() of one byte", x.clearText(), 1);
        due("clearText() again", x.clearText(), 0);
        due("clearText() of a full text", full().clearText(), 120);
    }

    private static void noFault() {
        due("textFault() of a new object", new BeamTraining().textFault(), 0);
        BeamTraining x = typed("fade 6");
        due("textFault()", x.textFault(), NONE);
        x.type('0');
        due("textFault() of the greatest fade", x.textFault(), NONE);
        x.type('0');
        due("textFault() with one digit more", x.textFault(), 5);
        x.clearText();
        due("textFault() of a cleared text", x.textFault(), 0);
        asksOnly("textFault()", BeamTraining::textFault);
        BeamTraining full = typed("fade 7" + " ".repeat(114));
        due("textFault() of a full text", full.textFault(), NONE);
    }

    private static void loadMakesAllAsAtFirst() {
        BeamTraining x = linked();
        typeInto(x, "fade 0");
        long before = x.digest();
        due("load()", x.load(), 0);
        due("all is as at first", x.digest(), new BeamTraining().digest());
        due("the text stays", x.textFault(), NONE);
        due("the saved states stay", x.undo(), 5);
        due("undo() of load()", x.digest(), before);
        due("the text stays", x.clearText(), 6);
        BeamTraining y = new BeamTraining();
        for (int p = 0; p < 8; p++) {
            y.addPath(9, 9, 9);
            y.setBlock(p, 200);
            y.setDrift(p, 3, 3);
        }
        typeInto(y, times(8, "path9 9 9"));
        BeamTraining fresh = new BeamTraining();
        for (int p = 0; p < 8; p++) fresh.addPath(9, 9, 9);
        due("load() of 8 paths", y.load(), 8);
        due("nothing is left of the paths of before", y.digest(), fresh.digest());
        BeamTraining z = linked();
        z.setFade(60, 5);
        z.setThreshold(73);
        z.setStation(1, 5, 6, 7);
        due("outage of a link that is down", z.outage(1), 0);
        z.undo();
        due("outage of a link that fails", z.outage(1), NONE);
        typeInto(z, "path 1 2 3");
        due("load() after an outage", z.load(), 1);
        BeamTraining one = new BeamTraining();
        one.addPath(1, 2, 3);
        due("nothing is left of the outage", z.digest(), one.digest());
    }

    private static void itemsInTheirOrder() {
        BeamTraining x = typed("fade 1;fade 60;threshold 200;threshold -200;patience 9;patience 1;path 1 1 1;path 2 2 2");
        due("load()", x.load(), 2);
        due("path 0", x.pathDirection(0, 0), 1);
        due("path 1", x.pathDirection(1, 0), 2);
        due("the last fade", x.setFade(0, 0), 60);
        due("the last threshold", x.setThreshold(0), -200);
        due("the last patience", x.setRecovery(2, false), 1);
        BeamTraining y = typed("station 0 16 63 100;station 0 2 5 0;station 1 3 6 7");
        y.load();
        due("the last orientation", y.direction(0, 0), 5);
        due("the last sectors", y.setStation(0, 8, 0, 40), 2);
        due("those of station 1", y.setStation(1, 8, 0, 40), 3);
    }

    private static void loadIsUndone() {
        undone("load", BeamTraining::load);
        BeamTraining x = typed("fade 9");
        due("load() of a new object", x.load(), 0);
        due("undo()", x.undo(), 0);
        due("the state of before", x.digest(), new BeamTraining().digest());
    }

    private static void numberOfLoadedPaths() {
        for (int paths = 1; paths <= 8; paths++) due("load()", typed(times(paths, "path1 1 1")).load(), paths);
        due("load() without paths", typed("fade 1").load(), 0);
    }

    private static void loadOfAFault() {
        refused("load() of an empty text", BAD_STATE, BeamTraining::new, BeamTraining::load);
        refused("load() of an empty text in a link", BAD_STATE, () -> {
            BeamTraining x = linked();
            x.clearText();
            return x;
        }, BeamTraining::load);
        refused("load() of a text whose last byte is its fault", BAD_STATE, () -> {
            BeamTraining x = linked();
            typeInto(x, "path 1 1 1;fade 9;fade 61");
            return x;
        }, BeamTraining::load);
        due("load() with the last number in its range", typed("path 1 1 1;fade 9;fade 60").load(), 1);
    }

    private static void latestCallIsUndone() {
        BeamTraining x = new BeamTraining();
        long first = x.digest();
        x.addPath(1, 2, 3);
        long second = x.digest();
        x.sweep(0);
        x.addPath(64, 0, 0);
        x.outage(7);
        due("undo()", x.undo(), 1);
        due("the state before the sweep", x.digest(), second);
        x.setThreshold(7);
        due("undo() of a call after an undo()", x.undo(), 1);
        due("the state before it", x.digest(), second);
        due("undo()", x.undo(), 0);
        due("the state at first", x.digest(), first);
        eventsComeBack();
        refused("an undo() is not undone", BAD_STATE, () -> {
            BeamTraining y = new BeamTraining();
            y.setThreshold(1);
            y.undo();
            return y;
        }, BeamTraining::undo);
    }

    /** The 21st event pushes out the oldest one, which is there again after undo(). */
    private static void eventsComeBack() {
        BeamTraining x = new BeamTraining();
        for (int n = 0; n < 19; n++) x.pass(1);
        x.setRecovery(2, true);
        x.pass(20);
        long before = x.digest();
        event(x, 19, 5, 1, 20);
        x.addPath(0, 0, 40);
        x.sweep(0);
        x.outage(100);
        event(x, 0, 1, 0, 39);
        event(x, 19, 5, 1, 21);
        x.undo();
        x.undo();
        for (int event = 0; event < 20; event++) event(x, event, 5, 1, 39 - event);
        due("digest()", x.digest(), before);
    }

    private static void savedStatesThatAreLeft() {
        BeamTraining x = linked();
        for (int left = 5; left >= 0; left--) due("undo()", x.undo(), left);
        due("undo() of none", x.undo(), BAD_STATE);
        x.setThreshold(1);
        x.setThreshold(2);
        due("undo() of two", x.undo(), 1);
    }

    private static void noSavedState() {
        refused("undo() of a new object", BAD_STATE, BeamTraining::new, BeamTraining::undo);
        refused("undo() after errors and questions", BAD_STATE, () -> {
            BeamTraining x = typed("fade 61");
            x.load();
            x.setThreshold(201);
            x.refine(0);
            x.quality(0, 0, 0);
            x.textFault();
            x.outage(1);
            return x;
        }, BeamTraining::undo);
        refused("undo() after six of them", BAD_STATE, () -> {
            BeamTraining x = linked();
            for (int n = 0; n < 6; n++) x.undo();
            return x;
        }, BeamTraining::undo);
    }

    private static void textSentences() {
        section("Text");
        test("a text of at most 120 bytes", BoundaryTextTest::atMost120Bytes);
        test("scenario = item { \";\" item }", BoundaryTextTest::itemsAndSemicolons);
        test("item = \"station\" number number number number", BoundaryTextTest::wholeStationItems);
        test("\"path\" number number number [ \"drift\" signed signed ]", BoundaryTextTest::wholePathItems);
        test("\"threshold\" signed | \"fade\" number | \"patience\" number", BoundaryTextTest::wholeSettingItems);
        test("signed = [ \"-\" ] number", BoundaryTextTest::oneSignAtMost);
        test("A token is a longest run of small letters, a longest run of digits, or any other single byte except blanks (32).",
            BoundaryTextTest::tokens);
        test("Blanks may stand before and after tokens, and are needed only between two runs of letters and between two numbers.",
            BoundaryTextTest::blanks);
        test("A number has one to three digits.", BoundaryTextTest::oneToThreeDigits);
        test("for station the station, its number of sectors, its orientation and its power", BoundaryTextTest::orderOfStationNumbers);
        test("for path its direction at station 0, its direction at station 1, its loss, and its drifts at station 0 and at station 1",
            BoundaryTextTest::orderOfPathNumbers);
        test("in the ranges given above", BoundaryTextTest::rangesOfNumbers);
        test("A ninth path is not allowed.", BoundaryTextTest::ninthPath);
        test("the position, from 0, of the first byte of the first token that is not allowed at its place",
            BoundaryTextTest::firstTokenThatIsNotAllowed);
        test("for a signed number out of its range the number, not the sign", BoundaryTextTest::signedNumberOutOfRange);
        test("for a ninth path the word path", BoundaryTextTest::wordOfTheNinthPath);
        test("or the length of the text, if it ends too early (also if it is empty)", BoundaryTextTest::textThatEndsTooEarly);
    }

    private static void undoErrorsSentences() {
        section("Undo, errors");
        test("save the whole state, except the text", BoundaryTextTest::textIsNotSaved);
        test("before each call that returns no error, even if it changes nothing", BoundaryTextTest::savedEvenIfNothingChanges);
        test("The latest 6 saved states are kept.", BoundaryTextTest::sixSavedStates);
        test("NONE (-100000) stands for \"there is none\".", BoundaryTextTest::constants);
        test("BAD_INDEX (-100001): there is no such station, sector, path, backup or event", BoundaryTextTest::badIndexOfEachKind);
        test("BAD_VALUE (-100002): another argument is out of its range", BoundaryTextTest::badValueOfEachCall);
        test("BAD_STATE (-100003): the call is not possible, as told; FULL (-100004): there is no room.",
            BoundaryTextTest::badStateAndFull);
        test("If several apply to a call, the first one in this order is returned", BoundaryTextTest::firstOfSeveralErrors);
        test("NONE is returned only if no error applies", BoundaryTextTest::noneOnlyWithoutError);
        test("A call that returns an error changes nothing.", BoundaryTextTest::errorsChangeNothing);
        test("A beam that a station does not have is out of its range.", BoundaryTextTest::beamsThatAStationDoesNotHave);
    }

    private static void promise1() {
        section("Promise 1: A new object");
        test("without paths, beams, backups and events", BoundaryTextTest::nothingInANewObject);
        test("with an empty text", BoundaryTextTest::emptyTextAtFirst);
        test("interval 0, time 0, no frames", BoundaryTextTest::countersAtFirst);
    }

    private static void promise2() {
        section("Promise 2: type");
        test("`code`: the byte, 0 to 255", BoundaryTextTest::codesOfBytes);
        test("BAD_VALUE if code is out of range", BoundaryTextTest::codesBesideBytes);
        test("Returns the length of the text", BoundaryTextTest::lengthOfTheText);
        test("FULL if the text has 120 bytes", BoundaryTextTest::noRoomForByte121);
    }

    private static void promise3() {
        section("Promise 3: clearText");
        test("Empties the text.", BoundaryTextTest::nothingOfClearedTexts);
        test("Returns the length that it had.", BoundaryTextTest::lengthsOfClearedTexts);
    }

    private static void promise4() {
        section("Promise 4: textFault");
        test("Returns its fault; NONE if it has none.", BoundaryTextTest::noFault);
    }

    private static void promise5() {
        section("Promise 5: load");
        test("Makes the whole state, except the text and the saved states, as at first", BoundaryTextTest::loadMakesAllAsAtFirst);
        test("then applies the items of the text in their order", BoundaryTextTest::itemsInTheirOrder);
        test("Undoable.", BoundaryTextTest::loadIsUndone);
        test("Returns the number of paths", BoundaryTextTest::numberOfLoadedPaths);
        test("BAD_STATE if the text has a fault", BoundaryTextTest::loadOfAFault);
    }

    private static void promise21() {
        section("Promise 21: undo");
        test("Undoes the latest call that can be undone: the state becomes as before it.", BoundaryTextTest::latestCallIsUndone);
        test("Returns the number of saved states that are left", BoundaryTextTest::savedStatesThatAreLeft);
        test("BAD_STATE if there is none.", BoundaryTextTest::noSavedState);
    }

    public static void main(String[] args) {
        textSentences();
        undoErrorsSentences();
        promise1();
        promise2();
        promise3();
        promise4();
        promise5();
        promise21();
        end();
    }
}
