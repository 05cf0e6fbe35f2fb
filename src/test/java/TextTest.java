/** The text of a scenario: type, clearText, textFault, load (promises 2 to 5). */
public final class TextTest {
    private static final int NONE = -100000, BAD_INDEX = -100001, BAD_VALUE = -100002, BAD_STATE = -100003, FULL = -100004;

    private static int wrong = 0;

    private static void due(String call, long got, long want) {
        if (got != want) {
            wrong++;
            System.out.println(call + " answered " + got + ", due is " + want);
        }
    }

    private static BeamTraining typed(String text) {
        BeamTraining x = new BeamTraining();
        typeInto(x, text);
        return x;
    }

    private static void typeInto(BeamTraining x, String text) {
        x.clearText();
        for (int i = 0; i < text.length(); i++) due("type", x.type(text.charAt(i)), i + 1);
    }

    private static void fault(String text, int want) {
        BeamTraining x = typed(text);
        long before = x.digest();
        due("textFault() of '" + text + "'", x.textFault(), want);
        due("textFault() again", x.textFault(), want);
        if (want != NONE) {
            due("load() of '" + text + "'", x.load(), BAD_STATE);
            due("nothing is saved", x.undo(), BAD_STATE);
        }
        due("the state after textFault()", x.digest(), before);
    }

    private static void typeAndClear() {
        BeamTraining x = new BeamTraining();
        due("clearText() of nothing", x.clearText(), 0);
        due("type(-1)", x.type(-1), BAD_VALUE);
        due("type(256)", x.type(256), BAD_VALUE);
        due("type(0)", x.type(0), 1);
        due("type(255)", x.type(255), 2);
        due("clearText()", x.clearText(), 2);
        due("clearText() again", x.clearText(), 0);
        for (int i = 1; i <= 120; i++) due("type(32)", x.type(32), i);
        due("type(32) in a full text", x.type(32), FULL);
        due("type(256) in a full text", x.type(256), BAD_VALUE);
        due("textFault() of blanks", x.textFault(), 120);
        due("clearText() of a full text", x.clearText(), 120);
        due("type is not undoable", x.undo(), BAD_STATE);
    }

    private static void goodTexts() {
        fault("path 1 2 3", NONE);
        fault("path1 2 3", NONE);
        fault("  path 63 63 300  ", NONE);
        fault("path 0 0 0drift-3-3", NONE);
        fault("path 0 0 0 drift - 3 3", NONE);
        fault("path 000 063 007 drift 0 -0", NONE);
        fault("station 1 16 63 100", NONE);
        fault("station 0 2 0 0;station 0 2 0 0", NONE);
        fault("threshold -200;threshold 200;threshold-0", NONE);
        fault("fade 60 ; fade 0;patience 1;patience9", NONE);
        fault("path1 1 1;path1 1 1;path1 1 1;path1 1 1;path1 1 1;path1 1 1;path1 1 1;path1 1 1", NONE);
    }

    private static void faultsOfOrder() {
        fault("", 0);
        fault("   ", 3);
        fault(";", 0);
        fault(" 7", 1);
        fault("path", 4);
        fault("path ", 5);
        fault("path 1 2", 8);
        fault("path 1 2 3;", 11);
        fault("path 1 2 3 ; ", 13);
        fault("path 1 2 3;;fade 1", 11);
        fault("path 1 2 3 4", 11);
        fault("path 1 2 3 fade 1", 11);
        fault("path 1 2 3 drift", 16);
        fault("path 1 2 3 drift 1", 18);
        fault("path 1 2 3 drift -", 18);
        fault("path 1 2 3 drift - -1 1", 19);
        fault("path 1 2 3 drift 1 x", 19);
        fault("path 1 2 3 drift 1 1 drift 1 1", 21);
        fault("path 1 2 3 drif 1 1", 11);
        fault("paths 1 2 3", 0);
        fault("pat h 1 2 3", 0);
        fault("pathz 1 2 3", 0);
        fault("patha 1 2 3", 0);
        fault("path`1 2 3", 4);
        fault("path{1 2 3", 4);
        fault("path/1 2 3", 4);
        fault("path:1 2 3", 4);
        fault("path 9 0 9999", 9);
        fault("Path 1 2 3", 0);
        fault("path 1,2,3", 6);
        fault("path\t1 2 3", 4);
        fault("path 1 2 3\u00e9", 10);
        fault("path 1 2 3\u0000", 10);
        fault("fade path", 5);
        fault("fade -1", 5);
        fault("station 0 -2 0 0", 10);
        fault("station 0 8 0", 13);
        fault("drift 1 1", 0);
        fault("threshold - 5 5", 14);
        fault("threshold +5", 10);
        fault("threshold --5", 11);
    }

    private static void faultsOfRange() {
        fault("path 64 2 3", 5);
        fault("path 1 64 3", 7);
        fault("path 1 2 301", 9);
        fault("path 1 2 3 drift 4 0", 17);
        fault("path 1 2 3 drift 0 -4", 20);
        fault("path 1 2 3 drift - 4 0", 19);
        fault("path 1 2 3 drift -4 0", 18);
        fault("path 1 2 3 drift 3 4", 19);
        fault("station 2 8 0 0", 8);
        fault("station 1 1 0 0", 10);
        fault("station 1 17 0 0", 10);
        fault("station 1 8 64 0", 12);
        fault("station 1 8 0 101", 14);
        fault("threshold 201", 10);
        fault("threshold -201", 11);
        fault("fade 61", 5);
        fault("patience 0", 9);
        fault("patience 10", 9);
        fault("fade 0001", 5);
        fault("threshold -0200", 11);
        fault("path 0000 1 1", 5);
        fault("path1 1 1;path1 1 1;path1 1 1;path1 1 1;path1 1 1;path1 1 1;path1 1 1;path1 1 1; path1 1 1", 81);
        fault("path1 1 1;path1 1 1;path1 1 1;path1 1 1;path1 1 1;path1 1 1;path1 1 1;path1 1 1; pathx", 81);
    }

    private static void loading() {
        BeamTraining x = new BeamTraining();
        due("load() of nothing", x.load(), BAD_STATE);
        typeInto(x, "station 1 4 8 60;path 1 2 3 drift 1 -2;path 4 5 6");
        due("load() of two paths", x.load(), 2);
        due("pathDirection(0, 1)", x.pathDirection(0, 1), 2);
        due("pathDirection(1, 0)", x.pathDirection(1, 0), 4);
        due("direction(1, 3)", x.direction(1, 3), 56);
        due("heard(0, 3)", x.heard(0, 3), NONE);
        due("heard(0, 4)", x.heard(0, 4), BAD_INDEX);
        due("heard(1, 7)", x.heard(1, 7), NONE);
        due("sweep(0)", x.sweep(0), 0);
        due("pass(2)", x.pass(2), 1);
        due("drift of path 0 at station 0", x.pathDirection(0, 0), 3);
        due("drift of path 0 at station 1", x.pathDirection(0, 1), 62);
        due("path 1 stays", x.pathDirection(1, 0), 4);
        due("path 1 stays at station 1", x.pathDirection(1, 1), 5);
        long before = x.digest();
        typeInto(x, "threshold -7 ; fade 9;patience 5");
        due("load() without paths", x.load(), 0);
        due("interval()", x.interval(), 0);
        due("frames()", x.frames(), 0);
        due("time()", x.time(), 0);
        due("isUp()", x.isUp(), 0);
        due("beam(0)", x.beam(0), NONE);
        due("eventCount()", x.eventCount(), 0);
        due("direction(1, 3)", x.direction(1, 3), 24);
        due("setThreshold(0)", x.setThreshold(0), -7);
        due("setFade(0, 1)", x.setFade(0, 1), 9);
        due("setRecovery(2, false)", x.setRecovery(2, false), 5);
        due("the same state as a new one", x.digest(), new BeamTraining().digest());
        due("undo()", x.undo(), 5);
        due("undo()", x.undo(), 4);
        due("undo()", x.undo(), 3);
        due("undo() of load()", x.undo(), 2);
        due("the state before load()", x.digest(), before);
        due("the text is kept by undo()", x.clearText(), 32);
        due("textFault()", x.textFault(), 0);
    }

    private static void loadForgetsSettings() {
        BeamTraining x = new BeamTraining();
        x.setFade(3, 77);
        x.setTracking(true, 9);
        x.setRecovery(7, true);
        x.setThreshold(11);
        x.addPath(1, 2, 3);
        x.setBlock(0, 4);
        typeInto(x, "fade 0");
        due("load()", x.load(), 0);
        due("all as at first", x.digest(), new BeamTraining().digest());
        typeInto(x, "path 1 2 3");
        due("load()", x.load(), 1);
        due("no extra loss is left", x.setBlock(0, 0), 0);
    }

    /** Neither an outage nor a text that was read before may shine through a load. */
    private static void loadAfterOtherTrials() {
        BeamTraining x = new BeamTraining();
        for (int path = 0; path < 3; path++) x.addPath(32 * (path & 1), 32 * (path & 1), 40);
        x.setStation(0, 5, 0, 50);
        x.setStation(1, 6, 0, 60);
        x.setThreshold(-100);
        x.setFade(1, 5);
        x.setTracking(true, 7);
        x.setRecovery(9, true);
        x.sweep(0);
        x.survey(20);
        for (int path = 0; path < 3; path++) x.setBlock(path, 200);
        due("outage(5)", x.outage(5), NONE);
        typeInto(x, "patience 2");
        due("load() after an outage", x.load(), 0);
        due("all as at first", x.digest(), new BeamTraining().digest());
        typeInto(x, "path 1 2 3 drift 1 1;station 1 9 9 9;threshold 9;fade 9;patience 9;fade x");
        due("textFault()", x.textFault(), 72);
        typeInto(x, "path 1 2 3");
        due("textFault()", x.textFault(), NONE);
        due("textFault() loads nothing", x.pathCount(), 0);
        due("load() after a fault", x.load(), 1);
        BeamTraining fresh = new BeamTraining();
        fresh.addPath(1, 2, 3);
        due("one path and no more", x.digest(), fresh.digest());
    }

    private static void fullText() {
        StringBuilder text = new StringBuilder("fade 7");
        while (text.length() < 120) text.insert(0, ' ');
        BeamTraining x = typed(text.toString());
        due("textFault() of a full text", x.textFault(), NONE);
        due("load() of a full text", x.load(), 0);
        due("setFade(0, 1)", x.setFade(0, 1), 7);
        text.setLength(119);
        typeInto(x, text + ";");
        due("textFault()", x.textFault(), 119);
        typeInto(x, "fade 12");
        x.clearText();
        typeInto(x, "fade 1");
        due("what was cleared is not read", x.load(), 0);
        due("setFade(0, 1)", x.setFade(0, 1), 1);
    }

    private static void repeatedItems() {
        BeamTraining x = typed("threshold 5;threshold -6;station 0 3 1 1;station 0 5 2 99;patience 9;patience 3;fade 4;fade 8");
        due("load()", x.load(), 0);
        due("the last threshold", x.setThreshold(0), -6);
        due("the last patience", x.setRecovery(1, false), 3);
        due("the last fade", x.setFade(0, 0), 8);
        due("the last sectors", x.setStation(0, 2, 0, 0), 5);
        due("the other station's", x.setStation(1, 2, 0, 0), 8);
    }

    public static void main(String[] args) {
        typeAndClear();
        goodTexts();
        faultsOfOrder();
        faultsOfRange();
        loading();
        loadForgetsSettings();
        loadAfterOtherTrials();
        fullText();
        repeatedItems();
        System.out.println(wrong == 0 ? "all answers are as due" : wrong + " answers are not as due");
        if (wrong != 0) System.exit(1);
    }
}
