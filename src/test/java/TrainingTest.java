/** Training and intervals: sweep, refine, survey, select, pass (promises 16 to 20). */
public final class TrainingTest {
    private static final int NONE = -100000, BAD_INDEX = -100001, BAD_VALUE = -100002, BAD_STATE = -100003;

    private static int wrong = 0;

    private static void due(String call, long got, long want) {
        if (got != want) {
            wrong++;
            System.out.println(call + " answered " + got + ", due is " + want);
        }
    }

    /** The fade of the frame with this number, from 1, after x was set. */
    private static int fade(int amplitude, int x, int frame) {
        int value = x;
        for (int i = 0; i < frame; i++) value = value * 1664525 + 1013904223;
        return (value >>> 8) % (amplitude + 1);
    }

    private static BeamTraining onePath(int loss) {
        BeamTraining x = new BeamTraining();
        due("addPath", x.addPath(0, 0, loss), 0);
        return x;
    }

    private static void event(BeamTraining x, int kind, int value, int interval) {
        due("eventKind(0)", x.eventKind(0), kind);
        due("eventValue(0)", x.eventValue(0), value);
        due("eventInterval(0)", x.eventInterval(0), interval);
    }

    // ---- sweep

    private static void sweepThatSucceeds() {
        // The path through sectors 3 and 5 has the level -24, the other one -40: 0.25 + 0.0992 is a little above -19.
        BeamTraining x = onePath(40);
        x.addPath(24, 40, 100);
        x.setThreshold(-28);
        x.pass(3);
        due("sweep(1)", x.sweep(1), 0);
        due("isUp()", x.isUp(), 1);
        due("beam(0)", x.beam(0), 0);
        due("beam(1)", x.beam(1), 0);
        int[] entries = {36, -28, NONE, NONE, NONE, NONE, NONE, -28};
        for (int k = 0; k < 8; k++) {
            due("heard(0, " + k + ")", x.heard(0, k), k == 5 ? -19 : entries[k]);
            due("heard(1, " + k + ")", x.heard(1, k), k == 3 ? -19 : entries[k]);
        }
        due("frames()", x.frames(), 18);
        due("time()", x.time(), 16 * 16 + 2 * 9);
        event(x, 1, 1, 3);
        due("sweep(0)", x.sweep(0), 0);
        event(x, 1, 0, 3);
        due("eventCount()", x.eventCount(), 2);
    }

    private static void highestOfEqualSectors() {
        BeamTraining x = new BeamTraining();
        x.addPath(8, 0, 40);
        x.addPath(40, 0, 40);
        due("sweep(0)", x.sweep(0), 0);
        due("heard(1, 1)", x.heard(1, 1), x.heard(1, 5));
        due("beam(0)", x.beam(0), 5);
        due("beam(1)", x.beam(1), 0);
        due("sweep(1)", x.sweep(1), 0);
        due("beam(0) of the responder", x.beam(0), 5);
    }

    private static void sweepThatIsNotHeard() {
        BeamTraining x = onePath(40);
        due("sweep(0)", x.sweep(0), 0);
        x.setBlock(0, 200);
        due("sweep(1)", x.sweep(1), 1);
        due("isUp()", x.isUp(), 0);
        due("frames()", x.frames(), 18 + 8);
        due("the table of R is made anew", x.heard(0, 0), NONE);
        due("the table of I stays", x.heard(1, 0), 36);
        due("beam(0) stays", x.beam(0), 0);
        event(x, 5, 1, 0);
        due("sweep(2)", x.sweep(2), BAD_INDEX);
        due("sweep(-1)", x.sweep(-1), BAD_INDEX);
        due("sweep(-1) sends nothing", x.frames(), 26);
    }

    private static void responderThatIsNotHeard() {
        BeamTraining x = onePath(90);
        x.setStation(0, 8, 0, 100);
        x.setStation(1, 4, 0, 0);
        due("sweep(0)", x.sweep(0), 2);
        due("frames()", x.frames(), 12);
        due("time()", x.time(), 192);
        due("heard(1, 0)", x.heard(1, 0), 46);
        due("heard(0, 0)", x.heard(0, 0), NONE);
        due("beam(0)", x.beam(0), NONE);
        due("beam(1)", x.beam(1), NONE);
        due("isUp()", x.isUp(), 0);
        event(x, 5, 2, 0);
        due("sweep(1)", x.sweep(1), 1);
        due("frames()", x.frames(), 16);
        due("heard(1, 0) stays", x.heard(1, 0), 46);
        event(x, 5, 1, 0);
    }

    /** With the amplitude 60 and the level 36 of the best sectors a frame is heard if its fade is at most 36. */
    private static int seedFor(int result) {
        for (int x = 0; x < 100000; x++) {
            boolean sectors = fade(60, x, 8) <= 36 && fade(60, x, 16) <= 36;
            boolean feedback = fade(60, x, 17) <= 36;
            boolean answer = fade(60, x, 18) <= 36;
            if (sectors && (result == 3 ? !feedback : result == 4 ? feedback && !answer : feedback && answer)) return x;
        }
        return -1;
    }

    private static void sweepsThatFade() {
        for (int result : new int[] {0, 3, 4}) {
            int seed = seedFor(result);
            BeamTraining x = onePath(40);
            x.select(1, 7);
            x.setFade(60, seed);
            due("sweep(0) with fading", x.sweep(0), result);
            due("heard(1, 0)", x.heard(1, 0), 36 - fade(60, seed, 8));
            due("heard(0, 0)", x.heard(0, 0), 36 - fade(60, seed, 16));
            due("beam(0)", x.beam(0), 0);
            due("beam(1)", x.beam(1), result == 3 ? 7 : 0);
            due("frames()", x.frames(), result == 3 ? 17 : 18);
            due("time()", x.time(), 256 + (result == 3 ? 9 : 18));
            due("isUp()", x.isUp(), result == 0 ? 1 : 0);
            event(x, result == 0 ? 1 : 5, result, 0);
        }
    }

    private static void sweepEndsFailuresAndKeepsBackups() {
        BeamTraining x = onePath(40);
        x.addPath(32, 32, 60);
        due("sweep(0)", x.sweep(0), 0);
        due("survey(8)", x.survey(8), 1);
        x.setRecovery(5, false);
        x.setThreshold(200);
        due("pass(3)", x.pass(3), 1);
        due("failures()", x.failures(), 3);
        due("sweep(0)", x.sweep(0), 1);
        due("failures()", x.failures(), 0);
        due("backupCount()", x.backupCount(), 1);
    }

    // ---- refine

    private static void refineOfTies() {
        BeamTraining x = new BeamTraining();
        x.addPath(4, 0, 40);
        due("refine(0)", x.refine(0), BAD_STATE);
        due("refine(2)", x.refine(2), BAD_INDEX);
        due("sweep(0)", x.sweep(0), 0);
        due("beam(0)", x.beam(0), 1);
        due("refine(-1)", x.refine(-1), BAD_INDEX);
        due("refine(0)", x.refine(0), 12);
        due("frames()", x.frames(), 18 + 17);
        due("time()", x.time(), 274 + 16 * 4 + 9);
        x.select(0, 13);
        due("refine(0) of an equal present beam", x.refine(0), 13);
        due("eventCount()", x.eventCount(), 1);
        due("refine(1)", x.refine(1), 10);
    }

    private static void refineOfTwoAndThreeSectors() {
        BeamTraining x = onePath(40);
        x.setStation(0, 2, 30, 40);
        due("sweep(0)", x.sweep(0), 0);
        due("beam(0)", x.beam(0), 1);
        due("refine(0)", x.refine(0), 2 + 5 + 4);
        due("frames()", x.frames(), 12 + 12);
        x.setStation(0, 3, 44, 40);
        due("sweep(0)", x.sweep(0), 0);
        due("beam(0)", x.beam(0), 1);
        int before = x.frames();
        x.select(0, 0);
        x.setThreshold(-10);
        due("refine(0)", x.refine(0), 3 + 5 + 1);
        due("frames()", x.frames(), before + 17);
    }

    private static void refineThatIsNotTold() {
        BeamTraining x = onePath(40);
        x.setStation(0, 8, 0, 60);
        due("sweep(0)", x.sweep(0), 0);
        x.setThreshold(90);
        due("feedback is not heard", x.refine(0), 0);
        due("frames()", x.frames(), 18 + 17);
        x.setThreshold(200);
        due("nothing is heard", x.refine(0), 0);
        due("frames()", x.frames(), 18 + 17 + 16);
        x.setThreshold(70);
        due("all is heard", x.refine(0), 10);
        due("the other one", x.refine(1), 10);
    }

    // ---- survey

    private static BeamTraining twoByTwo() {
        BeamTraining x = onePath(40);
        x.setStation(0, 2, 0, 40);
        x.setStation(1, 2, 0, 40);
        x.setThreshold(-10);
        return x;
    }

    private static void backup(BeamTraining x, int number, int beam0, int beam1, int quality) {
        due("backupBeam(" + number + ", 0)", x.backupBeam(number, 0), beam0);
        due("backupBeam(" + number + ", 1)", x.backupBeam(number, 1), beam1);
        due("backupQuality(" + number + ")", x.backupQuality(number), quality);
    }

    private static void surveyOfFour() {
        BeamTraining x = twoByTwo();
        due("survey(0)", x.survey(0), BAD_VALUE);
        due("survey(33)", x.survey(33), BAD_VALUE);
        due("survey(32)", x.survey(32), 1);
        backup(x, 0, 0, 0, 72);
        due("frames()", x.frames(), 4);
        due("time()", x.time(), 16);
        due("isUp()", x.isUp(), 0);
        due("eventCount()", x.eventCount(), 0);
        x.setThreshold(-80);
        due("survey(32)", x.survey(32), 2);
        backup(x, 0, 0, 0, 72);
        backup(x, 1, 1, 1, -80);
        x.select(0, 1);
        due("survey(1) with a present beam", x.survey(1), 1);
        backup(x, 0, 0, 0, 72);
        x.select(1, 0);
        due("survey(1) with two", x.survey(1), 1);
        backup(x, 0, 0, 1, -4);
        x.setThreshold(73);
        due("survey(1) that is not heard", x.survey(1), 0);
        due("backupBeam(0, 0)", x.backupBeam(0, 0), BAD_INDEX);
    }

    private static void surveyOfTies() {
        BeamTraining x = new BeamTraining();
        x.setStation(0, 2, 0, 40);
        x.setStation(1, 2, 0, 40);
        x.addPath(32, 0, 40);
        x.addPath(0, 32, 40);
        due("survey(32)", x.survey(32), 2);
        backup(x, 0, 0, 1, 72);
        backup(x, 1, 1, 0, 72);
    }

    private static void surveyKeepsThree() {
        BeamTraining x = onePath(40);
        x.setThreshold(-200);
        due("survey(1)", x.survey(1), 3);
        backup(x, 0, 0, 0, 72);
        backup(x, 1, 1, 1, -56);
        backup(x, 2, 7, 7, -56);
        due("frames()", x.frames(), 64);
        due("survey(8)", x.survey(8), 3);
        backup(x, 1, 1, 1, -56);
        due("survey(9)", x.survey(9), 3);
        backup(x, 1, 2, 2, -80);
        backup(x, 2, 4, 4, -80);
        x.select(0, 8 + 4);
        x.select(1, 8 + 4);
        due("a narrow present beam points two steps off", x.survey(3), 3);
        backup(x, 0, 1, 1, -56);
        due("survey(2)", x.survey(2), 3);
        backup(x, 0, 0, 0, 72);
    }

    private static void surveyMeasuresFades() {
        BeamTraining x = twoByTwo();
        x.setFade(60, 99);
        x.setThreshold(-200);
        due("survey(1)", x.survey(1), 2);
        backup(x, 0, 0, 0, 72 - fade(60, 99, 1));
        backup(x, 1, 1, 1, -80 - fade(60, 99, 4));
    }

    // ---- select

    private static void selecting() {
        BeamTraining x = onePath(40);
        due("select(2, 0)", x.select(2, 0), BAD_INDEX);
        due("select(-1, 99)", x.select(-1, 99), BAD_INDEX);
        due("select(0, 48)", x.select(0, 48), BAD_VALUE);
        due("select(0, -1)", x.select(0, -1), BAD_VALUE);
        due("select(0, -2)", x.select(0, -2), BAD_VALUE);
        due("select(0, 47)", x.select(0, 47), NONE);
        due("select(0, 0)", x.select(0, 0), 47);
        due("select(1, 8)", x.select(1, 8), NONE);
        due("isUp()", x.isUp(), 0);
        due("beam(0)", x.beam(0), 0);
        due("beam(1)", x.beam(1), 8);
        due("frames()", x.frames(), 0);
        due("sweep(0)", x.sweep(0), 0);
        due("select(1, 3)", x.select(1, 3), 0);
        due("the link stays", x.isUp(), 1);
    }

    // ---- pass

    private static void passingDown() {
        BeamTraining x = onePath(40);
        due("pass(0)", x.pass(0), BAD_VALUE);
        due("pass(51)", x.pass(51), BAD_VALUE);
        due("pass(50)", x.pass(50), 0);
        due("interval()", x.interval(), 50);
        due("frames()", x.frames(), 0);
        due("eventCount()", x.eventCount(), 0);
        x.setTracking(true, 0);
        x.setRecovery(2, true);
        due("pass(1) with automatic sweeps", x.pass(1), 1);
        event(x, 1, 0, 51);
        due("frames()", x.frames(), 18);
        due("pass(1) with tracking", x.pass(1), 1);
        due("frames()", x.frames(), 18 + 8);
        due("time()", x.time(), 274 + 16);
        x.removePath(0);
        due("pass(2) without paths", x.pass(2), 0);
        event(x, 5, 1, 54);
        due("eventKind(1)", x.eventKind(1), 2);
        due("eventInterval(1)", x.eventInterval(1), 54);
        due("frames()", x.frames(), 26 + 8 + 8 + 8);
    }

    private static void countingFailures() {
        BeamTraining x = onePath(40);
        due("sweep(0)", x.sweep(0), 0);
        x.setRecovery(3, false);
        x.setThreshold(73);
        due("pass(2)", x.pass(2), 1);
        due("failures()", x.failures(), 2);
        x.setThreshold(72);
        due("pass(1)", x.pass(1), 1);
        due("failures() after a good interval", x.failures(), 0);
        x.setThreshold(73);
        due("pass(2)", x.pass(2), 1);
        due("pass(1)", x.pass(1), 0);
        due("failures() when the link is down", x.failures(), 0);
        event(x, 2, 0, 6);
        due("beam(0) stays", x.beam(0), 0);
        due("frames()", x.frames(), 18 + 6 * 2);
        due("time()", x.time(), 274 + 6 * 4);
    }

    private static void oneOfBothFrames() {
        BeamTraining x = onePath(40);
        x.setStation(0, 8, 0, 60);
        due("sweep(0)", x.sweep(0), 0);
        x.setThreshold(80);
        x.setRecovery(1, false);
        due("pass(1) with one frame heard", x.pass(1), 0);
        due("frames()", x.frames(), 20);
        event(x, 2, 0, 1);
    }

    private static void lowerPatience() {
        BeamTraining x = onePath(40);
        due("sweep(0)", x.sweep(0), 0);
        x.setRecovery(9, false);
        x.setThreshold(200);
        due("pass(8)", x.pass(8), 1);
        due("failures()", x.failures(), 8);
        x.setRecovery(1, false);
        due("failures()", x.failures(), 8);
        due("pass(1)", x.pass(1), 0);
        due("failures()", x.failures(), 0);
    }

    private static void takingBackups() {
        BeamTraining x = onePath(40);
        x.addPath(16, 48, 60);
        x.addPath(32, 32, 70);
        due("sweep(1)", x.sweep(1), 0);
        due("survey(4)", x.survey(4), 2);
        x.setBlock(0, 200);
        x.setBlock(1, 200);
        x.setRecovery(1, false);
        int frames = x.frames();
        int time = x.time();
        due("pass(1)", x.pass(1), 1);
        event(x, 3, 1, 1);
        due("beam(0)", x.beam(0), 4);
        due("beam(1)", x.beam(1), 4);
        due("frames()", x.frames(), frames + 4);
        due("time()", x.time(), time + 2 * 2 + 2 * 4);
        due("backupCount()", x.backupCount(), 1);
        backup(x, 0, 2, 6, 52);
        x.setBlock(2, 200);
        due("pass(1)", x.pass(1), 0);
        event(x, 2, 0, 2);
        due("a backup that fails stays", x.backupCount(), 1);
        due("beam(0) stays", x.beam(0), 4);
        x.setBlock(1, 0);
        due("no backup is tried while the link is down", x.pass(3), 0);
        due("backupCount()", x.backupCount(), 1);
    }

    private static void backupBeforeMoves() {
        BeamTraining x = onePath(40);
        x.addPath(16, 48, 60);
        x.addPath(32, 32, 70);
        x.sweep(1);
        x.survey(4);
        x.setBlock(0, 200);
        x.setRecovery(1, false);
        due("pass(1)", x.pass(1), 1);
        event(x, 3, 0, 1);
        backup(x, 0, 4, 4, 42);
        due("backupBeam(1, 0)", x.backupBeam(1, 0), BAD_INDEX);
    }

    // ---- tracking

    private static BeamTraining tracked(int direction0, int beam0, int hysteresis) {
        BeamTraining x = new BeamTraining();
        x.addPath(direction0, 0, 40);
        due("sweep(0)", x.sweep(0), 0);
        x.select(0, beam0);
        x.select(1, 10);
        x.setTracking(true, hysteresis);
        return x;
    }

    private static void trackedTo(int direction0, int beam0, int hysteresis, int want) {
        BeamTraining x = tracked(direction0, beam0, hysteresis);
        due("pass(1)", x.pass(1), 1);
        due("beam " + beam0 + " tracks the direction " + direction0, x.beam(0), want);
        due("beam(1) stays", x.beam(1), 10);
        due("eventCount()", x.eventCount(), want == beam0 ? 1 : 2);
        if (want != beam0) event(x, 4, 0, 1);
        due("frames()", x.frames(), 18 + 8);
    }

    private static void tracking() {
        trackedTo(1, 10, 3, 11);
        trackedTo(1, 10, 4, 10);
        trackedTo(63, 10, 3, 9);
        trackedTo(0, 10, 0, 10);
        trackedTo(6, 12, 0, 13);
        trackedTo(1, 12, 0, 11);
        trackedTo(63, 8, 0, 9);
        trackedTo(2, 11, 0, 12);
        trackedTo(62, 9, 0, 8);
        trackedTo(2, 13, 0, 12);
        trackedTo(62, 47, 0, 8);
        trackedTo(58, 8, 0, 47);
        trackedTo(6, 0, 4, 1);
        trackedTo(56, 0, 0, 7);
        trackedTo(0, 7, 0, 0);
        trackedTo(52, 7, 0, 6);
        trackedTo(4, 0, 0, 1);
        trackedTo(4, 0, 1, 0);
    }

    private static void trackingOfStation1() {
        BeamTraining x = new BeamTraining();
        x.addPath(0, 0, 40);
        due("sweep(0)", x.sweep(0), 0);
        x.select(0, 10);
        x.select(1, 11);
        x.setDrift(0, 1, 0);
        x.setTracking(true, 0);
        due("pass(1)", x.pass(1), 1);
        due("beam(0)", x.beam(0), 11);
        due("beam(1)", x.beam(1), 10);
        event(x, 4, 1, 1);
        due("eventValue(1)", x.eventValue(1), 0);
        x.setTracking(false, 0);
        due("pass(1) without tracking", x.pass(1), 1);
        due("beam(0)", x.beam(0), 11);
    }

    /** Station 1 is loud and station 0 is not: each frame has the power of its sender. */
    private static void powersOfBothSenders() {
        BeamTraining x = onePath(40);
        x.setStation(1, 8, 0, 60);
        due("sweep(0)", x.sweep(0), 0);
        x.setRecovery(1, false);
        x.setThreshold(80);
        due("pass(1) with the frame of station 1 alone", x.pass(1), 0);
        x.undo();
        x.setThreshold(72);
        due("pass(1) with both", x.pass(1), 1);
        x.setThreshold(80);
        x.setTracking(true, 0);
        x.setDrift(0, 1, 1);
        x.select(0, 10);
        x.select(1, 10);
        due("pass(1)", x.pass(1), 1);
        due("beam(0)", x.beam(0), 11);
        due("beam(1)", x.beam(1), 11);
        x.setThreshold(97);
        due("pass(1)", x.pass(1), 0);
        due("beam(0) was not heard", x.beam(0), 11);
        due("beam(1) was heard", x.beam(1), 12);
    }

    private static void trackingFromSilence() {
        BeamTraining x = tracked(1, 10, 40);
        x.setThreshold(96);
        due("pass(1)", x.pass(1), 1);
        due("the present beam was not heard", x.beam(0), 11);
        x = tracked(1, 10, 0);
        x.setThreshold(97);
        due("pass(1)", x.pass(1), 1);
        due("no beam was heard", x.beam(0), 10);
        due("failures()", x.failures(), 1);
    }

    private static void lowerOfEqualNeighbours() {
        BeamTraining x = tracked(0, 10, 0);
        x.addPath(32, 0, 40);
        x.select(0, 2);
        x.setThreshold(-200);
        due("pass(1)", x.pass(1), 1);
        due("beam(0) between two equal paths", x.beam(0), 1);
    }

    public static void main(String[] args) {
        sweepThatSucceeds();
        highestOfEqualSectors();
        sweepThatIsNotHeard();
        responderThatIsNotHeard();
        sweepsThatFade();
        sweepEndsFailuresAndKeepsBackups();
        refineOfTies();
        refineOfTwoAndThreeSectors();
        refineThatIsNotTold();
        surveyOfFour();
        surveyOfTies();
        surveyKeepsThree();
        surveyMeasuresFades();
        selecting();
        passingDown();
        countingFailures();
        oneOfBothFrames();
        lowerPatience();
        takingBackups();
        backupBeforeMoves();
        tracking();
        trackingOfStation1();
        powersOfBothSenders();
        trackingFromSilence();
        lowerOfEqualNeighbours();
        System.out.println(wrong == 0 ? "all answers are as due" : wrong + " answers are not as due");
        if (wrong != 0) System.exit(1);
    }
}
