/** What the class tells of its state: isUp to pathDirection, backups, events and digest (promises 22 to 32, 39 to 46). */
public final class StateTest {
    private static final int NONE = -100000, BAD_INDEX = -100001, BAD_VALUE = -100002;

    private static int wrong = 0;

    private static void due(String call, long got, long want) {
        if (got != want) {
            wrong++;
            System.out.println(call + " answered " + got + ", due is " + want);
        }
    }

    private static void beamsAndLink() {
        BeamTraining x = new BeamTraining();
        due("beam(0)", x.beam(0), NONE);
        due("beam(2)", x.beam(2), BAD_INDEX);
        due("beam(-1)", x.beam(-1), BAD_INDEX);
        x.addPath(8, 40, 60);
        due("isUp()", x.isUp(), 0);
        x.sweep(0);
        due("isUp()", x.isUp(), 1);
        due("beam(0)", x.beam(0), 1);
        due("beam(1)", x.beam(1), 5);
        x.refine(1);
        due("beam(1)", x.beam(1), 8 + 5 * 5 + 2);
        x.undo();
        x.undo();
        due("isUp()", x.isUp(), 0);
    }

    private static void directions() {
        BeamTraining x = new BeamTraining();
        x.setStation(0, 6, 60, 40);
        int[] sectors = {60, 6, 17, 28, 38, 49};
        for (int k = 0; k < 6; k++) {
            due("direction(0, " + k + ")", x.direction(0, k), sectors[k]);
            for (int f = -2; f <= 2; f++) {
                due("a narrow direction", x.direction(0, 6 + 5 * k + f + 2), (sectors[k] + f) & 63);
            }
        }
        due("direction(0, 36)", x.direction(0, 36), BAD_VALUE);
        due("direction(0, -1)", x.direction(0, -1), BAD_VALUE);
        due("direction(0, NONE)", x.direction(0, NONE), BAD_VALUE);
        due("direction(2, 0)", x.direction(2, -1), BAD_INDEX);
        due("direction(-1, 0)", x.direction(-1, 0), BAD_INDEX);
        x.setStation(1, 16, 63, 40);
        due("direction(1, 15)", x.direction(1, 15), 59);
        due("direction(1, 95)", x.direction(1, 95), 61);
        due("direction(1, 16)", x.direction(1, 16), 61);
        due("direction(1, 96)", x.direction(1, 96), BAD_VALUE);
        x.setStation(0, 2, 60, 0);
        due("direction(0, 2)", x.direction(0, 2), 58);
        due("direction(0, 11)", x.direction(0, 11), 30);
        due("direction(0, 12)", x.direction(0, 12), BAD_VALUE);
    }

    private static void gains() {
        BeamTraining x = new BeamTraining();
        int[] wide = {36, 35, 32, 27, 20, 11, 0, -13, -28, -40, -40};
        int[] narrow = {48, 45, 36, 21, 0, -27, -40, -40, -40, -40, -40};
        for (int d = 0; d <= 10; d++) {
            due("gain(0, 0, " + d + ")", x.gain(0, 0, d), wide[d]);
            due("gain(0, 0, -" + d + ")", x.gain(0, 0, (64 - d) % 64), wide[d]);
            due("gain(1, 10, " + d + ")", x.gain(1, 10, d), narrow[d]);
            due("gain(1, 10, -" + d + ")", x.gain(1, 10, (64 - d) % 64), narrow[d]);
        }
        due("gain(0, 8, 1)", x.gain(0, 8, 1), 21);
        due("gain(0, 8, 62)", x.gain(0, 8, 62), 48);
        due("gain(0, 7, 62)", x.gain(0, 7, 62), 0);
        due("gain(0, 4, 63)", x.gain(0, 4, 63), -40);
        due("gain(0, 0, 32)", x.gain(0, 0, 32), -40);
        due("gain(0, 10, 32)", x.gain(0, 10, 32), -40);
        due("gain(0, -1, 32)", x.gain(0, -1, 32), 0);
        due("gain(0, 47, 56)", x.gain(0, 47, 56), 36);
        due("gain(0, 48, 0)", x.gain(0, 48, 0), BAD_VALUE);
        due("gain(0, -2, 0)", x.gain(0, -2, 0), BAD_VALUE);
        due("gain(0, 0, 64)", x.gain(0, 0, 64), BAD_VALUE);
        due("gain(0, -1, -1)", x.gain(0, -1, -1), BAD_VALUE);
        due("gain(2, 0, 64)", x.gain(2, 0, 64), BAD_INDEX);
        due("gain(-1, 0, 0)", x.gain(-1, 0, 0), BAD_INDEX);
    }

    private static void tables() {
        BeamTraining x = new BeamTraining();
        x.setStation(0, 3, 0, 40);
        due("heard(1, 2)", x.heard(1, 2), NONE);
        due("heard(1, 3)", x.heard(1, 3), BAD_INDEX);
        due("heard(0, 7)", x.heard(0, 7), NONE);
        due("heard(0, 8)", x.heard(0, 8), BAD_INDEX);
        due("heard(0, -1)", x.heard(0, -1), BAD_INDEX);
        due("heard(2, 0)", x.heard(2, 0), BAD_INDEX);
        due("heard(-1, 0)", x.heard(-1, 0), BAD_INDEX);
        x.addPath(0, 8, 50);
        due("sweep(0)", x.sweep(0), 0);
        due("heard(1, 0)", x.heard(1, 0), 26);
        due("heard(0, 1)", x.heard(0, 1), 26);
        due("heard(0, 0)", x.heard(0, 0), NONE);
    }

    private static void counters() {
        BeamTraining x = new BeamTraining();
        x.addPath(0, 0, 40);
        x.sweep(0);
        due("frames()", x.frames(), 18);
        due("time()", x.time(), 274);
        x.refine(0);
        due("frames()", x.frames(), 35);
        due("time()", x.time(), 274 + 73);
        x.survey(1);
        due("frames()", x.frames(), 99);
        due("time()", x.time(), 347 + 256);
        x.setTracking(true, 4);
        x.pass(2);
        due("frames()", x.frames(), 115);
        due("time()", x.time(), 603 + 32);
        due("interval()", x.interval(), 2);
        due("failures()", x.failures(), 0);
        x.setThreshold(200);
        x.pass(1);
        due("failures()", x.failures(), 1);
        due("interval()", x.interval(), 3);
        x.undo();
        due("interval() after undo()", x.interval(), 2);
        due("frames() after undo()", x.frames(), 115);
        due("time() after undo()", x.time(), 635);
        due("failures() after undo()", x.failures(), 0);
        x.quality(0, 0, 0);
        x.bestPair();
        x.shortfall();
        x.share(0, 0);
        x.outage(30);
        due("questions send no frames", x.frames(), 115);
        due("nor pass intervals", x.interval(), 2);
    }

    private static void pathDirections() {
        BeamTraining x = new BeamTraining();
        due("pathCount()", x.pathCount(), 0);
        due("pathDirection(0, 0)", x.pathDirection(0, 0), BAD_INDEX);
        x.addPath(5, 63, 0);
        due("pathCount()", x.pathCount(), 1);
        due("pathDirection(0, 0)", x.pathDirection(0, 0), 5);
        due("pathDirection(0, 1)", x.pathDirection(0, 1), 63);
        due("pathDirection(0, 2)", x.pathDirection(0, 2), BAD_INDEX);
        due("pathDirection(0, -1)", x.pathDirection(0, -1), BAD_INDEX);
        due("pathDirection(1, 0)", x.pathDirection(1, 0), BAD_INDEX);
        due("pathDirection(-1, 0)", x.pathDirection(-1, 0), BAD_INDEX);
        due("pathDirection(8, 0)", x.pathDirection(8, 0), BAD_INDEX);
    }

    private static void backups() {
        BeamTraining x = new BeamTraining();
        due("backupBeam(0, 0)", x.backupBeam(0, 0), BAD_INDEX);
        due("backupQuality(0)", x.backupQuality(0), BAD_INDEX);
        x.addPath(8, 0, 40);
        x.addPath(40, 32, 50);
        due("survey(8)", x.survey(8), 2);
        due("backupCount()", x.backupCount(), 2);
        due("backupBeam(0, 0)", x.backupBeam(0, 0), 1);
        due("backupBeam(0, 1)", x.backupBeam(0, 1), 0);
        due("backupBeam(1, 0)", x.backupBeam(1, 0), 5);
        due("backupBeam(1, 1)", x.backupBeam(1, 1), 4);
        due("backupQuality(0)", x.backupQuality(0), 72);
        due("backupQuality(1)", x.backupQuality(1), 62);
        due("backupBeam(2, 0)", x.backupBeam(2, 0), BAD_INDEX);
        due("backupBeam(-1, 0)", x.backupBeam(-1, 0), BAD_INDEX);
        due("backupBeam(0, 2)", x.backupBeam(0, 2), BAD_INDEX);
        due("backupBeam(0, -1)", x.backupBeam(0, -1), BAD_INDEX);
        due("backupQuality(2)", x.backupQuality(2), BAD_INDEX);
        due("backupQuality(3)", x.backupQuality(3), BAD_INDEX);
        due("backupQuality(-1)", x.backupQuality(-1), BAD_INDEX);
        x.setBlock(0, 100);
        x.rotate(0, 20);
        due("as it was in the survey", x.backupQuality(0), 72);
        due("sweep(0)", x.sweep(1), 0);
        due("a sweep leaves the backups", x.backupCount(), 2);
        due("survey(1) that hears nothing more", x.survey(1) >= 0 ? 1 : 0, 1);
        x.undo();
        due("undo() of the second survey", x.backupCount(), 2);
        due("backupBeam(0, 0)", x.backupBeam(0, 0), 1);
        due("backupBeam(0, 1)", x.backupBeam(0, 1), 0);
        due("backupBeam(1, 0)", x.backupBeam(1, 0), 5);
        due("backupBeam(1, 1)", x.backupBeam(1, 1), 4);
        due("backupQuality(0)", x.backupQuality(0), 72);
        due("backupQuality(1)", x.backupQuality(1), 62);
        x.undo();
        x.undo();
        x.undo();
        x.undo();
        due("undo() of the survey", x.backupCount(), 0);
    }

    private static void events() {
        BeamTraining x = new BeamTraining();
        due("eventCount()", x.eventCount(), 0);
        due("eventKind(0)", x.eventKind(0), BAD_INDEX);
        due("eventValue(0)", x.eventValue(0), BAD_INDEX);
        due("eventInterval(0)", x.eventInterval(0), BAD_INDEX);
        x.setRecovery(1, true);
        for (int n = 1; n <= 20; n++) {
            x.pass(1);
            due("eventCount()", x.eventCount(), n);
            due("eventInterval(last)", x.eventInterval(n - 1), 1);
            due("eventKind(n)", x.eventKind(n), BAD_INDEX);
        }
        x.addPath(0, 0, 40);
        x.sweep(1);
        due("eventCount()", x.eventCount(), 20);
        due("eventKind(0)", x.eventKind(0), 1);
        due("eventValue(0)", x.eventValue(0), 1);
        due("eventInterval(0)", x.eventInterval(0), 20);
        due("eventKind(1)", x.eventKind(1), 5);
        due("eventValue(1)", x.eventValue(1), 1);
        due("eventInterval(1)", x.eventInterval(1), 20);
        due("eventInterval(19)", x.eventInterval(19), 2);
        due("eventKind(20)", x.eventKind(20), BAD_INDEX);
        due("eventValue(20)", x.eventValue(20), BAD_INDEX);
        due("eventInterval(20)", x.eventInterval(20), BAD_INDEX);
        due("eventKind(-1)", x.eventKind(-1), BAD_INDEX);
        due("eventValue(-1)", x.eventValue(-1), BAD_INDEX);
        due("eventInterval(-1)", x.eventInterval(-1), BAD_INDEX);
        x.setBlock(0, 200);
        x.pass(1);
        due("the link went down", x.eventKind(1), 2);
        due("and a sweep failed", x.eventKind(0), 5);
        due("eventInterval(0)", x.eventInterval(0), 21);
        due("eventKind(2)", x.eventKind(2), 1);
        due("eventInterval(19)", x.eventInterval(19), 4);
        x.undo();
        x.undo();
        due("undo() brings the events back", x.eventKind(0), 1);
        due("eventValue(0)", x.eventValue(0), 1);
        due("eventKind(1)", x.eventKind(1), 5);
        due("eventValue(1)", x.eventValue(1), 1);
        due("eventInterval(1)", x.eventInterval(1), 20);
        due("eventInterval(19)", x.eventInterval(19), 2);
    }

    private static long folded(int... numbers) {
        long h = 17;
        for (int v : numbers) h = 31 * h + v;
        return h;
    }

    private static void digests() {
        BeamTraining x = new BeamTraining();
        x.setStation(0, 2, 8, 41);
        x.setStation(1, 3, 40, 42);
        x.addPath(8, 40, 43);
        x.setDrift(0, 1, -1);
        x.setBlock(0, 2);
        x.addPath(40, 60, 150);
        x.setThreshold(-7);
        x.setFade(5, -123456789);
        x.setTracking(true, 6);
        x.setRecovery(3, true);
        due("before training", x.digest(), folded(0, 0, 0, 0, 0, -123456789,
            2, 8, 41, NONE, NONE, NONE, NONE, 3, 40, 42, NONE, NONE, NONE,
            8, 40, 43, 2, 1, -1, 40, 60, 150, 0, 0, 0, -7, 5, 1, 6, 3, 1));
        x.setFade(0, 1);
        due("sweep(1)", x.sweep(1), 0);
        due("survey(9)", x.survey(9), 0);
        x.select(1, 7);
        due("survey(1)", x.survey(1), 0);
        x.select(0, 1);
        x.setThreshold(-200);
        due("survey(1)", x.survey(1), 1);
        int seed = 1;
        for (int i = 0; i < 7 + 18; i++) seed = seed * 1664525 + 1013904223;
        due("after training", x.digest(), folded(1, 0, 0, 25, 5 * 16 + 18 + 72, seed,
            2, 8, 41, 1, x.heard(0, 0), NONE, NONE, 3, 40, 42, 7, x.heard(1, 0), NONE,
            8, 40, 43, 2, 1, -1, 40, 60, 150, 0, 0, 0,
            0, x.backupBeam(0, 1), x.backupQuality(0),
            1, 1, 0, -200, 0, 1, 6, 3, 1));
    }

    public static void main(String[] args) {
        beamsAndLink();
        directions();
        gains();
        tables();
        counters();
        pathDirections();
        backups();
        events();
        digests();
        System.out.println(wrong == 0 ? "all answers are as due" : wrong + " answers are not as due");
        if (wrong != 0) System.exit(1);
    }
}
