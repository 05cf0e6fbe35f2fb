/** Stations, paths and settings: setStation to setRecovery, and undo (promises 6 to 15, and 21). */
public final class SettingsTest {
    private static final int NONE = -100000, BAD_INDEX = -100001, BAD_VALUE = -100002, BAD_STATE = -100003, FULL = -100004;
    private static final int LEAST = Integer.MIN_VALUE, MOST = Integer.MAX_VALUE;

    private static int wrong = 0;

    private static void due(String call, long got, long want) {
        if (got != want) {
            wrong++;
            System.out.println(call + " answered " + got + ", due is " + want);
        }
    }

    /** A link that is up, with two backups, a table on both sides, and events. */
    private static BeamTraining linked() {
        BeamTraining x = new BeamTraining();
        x.addPath(0, 0, 40);
        x.addPath(16, 48, 60);
        x.addPath(32, 32, 70);
        due("sweep(1) of a link", x.sweep(1), 0);
        due("survey(4) of a link", x.survey(4), 2);
        return x;
    }

    private static void stations() {
        BeamTraining x = linked();
        x.setBlock(0, 200);
        x.setBlock(1, 200);
        x.setBlock(2, 200);
        due("pass(1)", x.pass(1), 1);
        due("failures()", x.failures(), 1);
        int frames = x.frames();
        due("setStation(1, 4, 6, 50)", x.setStation(1, 4, 6, 50), 8);
        due("isUp()", x.isUp(), 0);
        due("beam(1)", x.beam(1), NONE);
        due("beam(0) stays", x.beam(0), 0);
        due("backupCount()", x.backupCount(), 0);
        for (int sector = 0; sector < 8; sector++) due("heard(1, .)", x.heard(1, sector), NONE);
        for (int sector = 0; sector < 4; sector++) due("heard(0, .)", x.heard(0, sector), NONE);
        due("heard(0, 4)", x.heard(0, 4), BAD_INDEX);
        due("failures() stay", x.failures(), 1);
        due("frames() stay", x.frames(), frames);
        due("eventCount() stays", x.eventCount(), 1);
        due("direction(1, 1)", x.direction(1, 1), 22);
        due("setStation(1, 2, 63, 0)", x.setStation(1, 2, 63, 0), 4);
        due("setStation(0, 16, 0, 100)", x.setStation(0, 16, 0, 100), 8);
        due("heard(1, 15)", x.heard(1, 15), NONE);
        due("removePath(2)", x.removePath(2), 2);
        due("removePath(1)", x.removePath(1), 1);
        due("quality from 0", x.quality(0, -1, -1), 100 - 200 - 40);
        due("quality from 1", x.quality(1, -1, -1), -200 - 40);
    }

    private static void stationErrors() {
        BeamTraining x = linked();
        long before = x.digest();
        due("setStation(2, ..)", x.setStation(2, 8, 0, 40), BAD_INDEX);
        due("setStation(-1, ..)", x.setStation(-1, 1, 0, 40), BAD_INDEX);
        due("1 sector", x.setStation(0, 1, 0, 40), BAD_VALUE);
        due("17 sectors", x.setStation(0, 17, 0, 40), BAD_VALUE);
        due("orientation -1", x.setStation(0, 8, -1, 40), BAD_VALUE);
        due("orientation 64", x.setStation(0, 8, 64, 40), BAD_VALUE);
        due("power -1", x.setStation(0, 8, 0, -1), BAD_VALUE);
        due("power 101", x.setStation(0, 8, 0, 101), BAD_VALUE);
        due("rotate(2, 0)", x.rotate(2, 64), BAD_INDEX);
        due("rotate(-1, 0)", x.rotate(-1, 0), BAD_INDEX);
        due("rotate(0, 64)", x.rotate(0, 64), BAD_VALUE);
        due("rotate(0, -64)", x.rotate(0, -64), BAD_VALUE);
        due("rotate(0, least)", x.rotate(0, LEAST), BAD_VALUE);
        due("digest()", x.digest(), before);
    }

    private static void turning() {
        BeamTraining x = linked();
        due("rotate(0, 63)", x.rotate(0, 63), 63);
        due("rotate(0, 2)", x.rotate(0, 2), 1);
        due("rotate(0, -5)", x.rotate(0, -5), 60);
        due("rotate(0, -63)", x.rotate(0, -63), 61);
        due("rotate(0, 0)", x.rotate(0, 0), 61);
        due("rotate(1, 7)", x.rotate(1, 7), 7);
        due("direction(0, 1)", x.direction(0, 1), 5);
        due("the link stays", x.isUp(), 1);
        due("the beam stays", x.beam(0), 0);
        due("the backups stay", x.backupCount(), 2);
        due("the table stays", x.heard(1, 0), 36);
    }

    private static void paths() {
        BeamTraining x = new BeamTraining();
        due("addPath(-1, 0, 0)", x.addPath(-1, 0, 0), BAD_VALUE);
        due("addPath(0, -1, 0)", x.addPath(0, -1, 0), BAD_VALUE);
        due("addPath(0, 0, -1)", x.addPath(0, 0, -1), BAD_VALUE);
        due("addPath(64, 0, 0)", x.addPath(64, 0, 0), BAD_VALUE);
        due("addPath(0, 64, 0)", x.addPath(0, 64, 0), BAD_VALUE);
        due("addPath(0, 0, 301)", x.addPath(0, 0, 301), BAD_VALUE);
        due("removePath(0) of none", x.removePath(0), BAD_INDEX);
        for (int path = 0; path < 8; path++) due("addPath", x.addPath(path, 63 - path, 300 - path), path);
        due("a ninth path", x.addPath(0, 0, 0), FULL);
        due("a wrong ninth path", x.addPath(0, 0, 301), BAD_VALUE);
        due("pathCount()", x.pathCount(), 8);
        due("removePath(8)", x.removePath(8), BAD_INDEX);
        due("removePath(-1)", x.removePath(-1), BAD_INDEX);
        due("setDrift(3, 1, 2)", x.setDrift(3, 1, 2), 1);
        due("setBlock(3, 17)", x.setBlock(3, 17), 0);
        due("removePath(2)", x.removePath(2), 7);
        due("direction of path 1", x.pathDirection(1, 0), 1);
        due("direction of path 2", x.pathDirection(2, 0), 3);
        due("direction of path 6", x.pathDirection(6, 1), 56);
        due("direction of path 7", x.pathDirection(7, 1), BAD_INDEX);
        due("the extra loss moves with its path", x.setBlock(2, 0), 17);
        x.pass(1);
        due("the drift moves with its path", x.pathDirection(2, 1), 62);
        due("path 3 has none", x.pathDirection(3, 1), 59);
        due("addPath", x.addPath(9, 9, 9), 7);
        due("a new path has no extra loss", x.setBlock(7, 0), 0);
        x.pass(1);
        due("nor drifts", x.pathDirection(7, 0), 9);
        due("removePath(7)", x.removePath(7), 7);
    }

    private static void removedPathIsForgotten() {
        BeamTraining x = new BeamTraining();
        x.addPath(1, 1, 1);
        x.setDrift(0, 3, 3);
        x.setBlock(0, 99);
        due("removePath(0)", x.removePath(0), 0);
        due("quality without paths", x.quality(0, -1, -1), NONE);
        due("addPath", x.addPath(1, 1, 1), 0);
        due("extra loss", x.setBlock(0, 0), 0);
        x.pass(1);
        due("direction", x.pathDirection(0, 0), 1);
    }

    private static void driftAndBlock() {
        BeamTraining x = new BeamTraining();
        x.addPath(62, 1, 50);
        due("setDrift(1, 0, 0)", x.setDrift(1, 9, 0), BAD_INDEX);
        due("setDrift(-1, 0, 0)", x.setDrift(-1, 0, 0), BAD_INDEX);
        due("setDrift(0, 4, 0)", x.setDrift(0, 4, 0), BAD_VALUE);
        due("setDrift(0, -4, 0)", x.setDrift(0, -4, 0), BAD_VALUE);
        due("setDrift(0, 0, 4)", x.setDrift(0, 0, 4), BAD_VALUE);
        due("setDrift(0, 0, -4)", x.setDrift(0, 0, -4), BAD_VALUE);
        due("setDrift(0, 3, -3)", x.setDrift(0, 3, -3), 1);
        due("nothing moves yet", x.pathDirection(0, 0), 62);
        x.pass(1);
        due("direction at station 0", x.pathDirection(0, 0), 1);
        due("direction at station 1", x.pathDirection(0, 1), 62);
        due("setDrift(0, -3, 3)", x.setDrift(0, -3, 3), 1);
        x.pass(2);
        due("direction at station 0", x.pathDirection(0, 0), 59);
        due("direction at station 1", x.pathDirection(0, 1), 4);
        due("setBlock(1, 0)", x.setBlock(1, 201), BAD_INDEX);
        due("setBlock(-1, 0)", x.setBlock(-1, 0), BAD_INDEX);
        due("setBlock(0, 201)", x.setBlock(0, 201), BAD_VALUE);
        due("setBlock(0, -1)", x.setBlock(0, -1), BAD_VALUE);
        due("setBlock(0, 200)", x.setBlock(0, 200), 0);
        due("quality", x.quality(0, -1, -1), 40 - 50 - 200);
        due("setBlock(0, 1)", x.setBlock(0, 1), 200);
        due("quality", x.quality(0, -1, -1), 40 - 50 - 1);
        due("setBlock(0, 0)", x.setBlock(0, 0), 1);
    }

    private static void settings() {
        BeamTraining x = new BeamTraining();
        due("setThreshold(201)", x.setThreshold(201), BAD_VALUE);
        due("setThreshold(-201)", x.setThreshold(-201), BAD_VALUE);
        due("setThreshold(200)", x.setThreshold(200), 0);
        due("setThreshold(-200)", x.setThreshold(-200), 200);
        due("setThreshold(0)", x.setThreshold(0), -200);
        due("setFade(-1, 0)", x.setFade(-1, 0), BAD_VALUE);
        due("setFade(61, 0)", x.setFade(61, 0), BAD_VALUE);
        due("setFade(60, least)", x.setFade(60, LEAST), 0);
        due("setFade(7, most)", x.setFade(7, MOST), 60);
        due("setFade(0, 1)", x.setFade(0, 1), 7);
        due("setTracking(true, -1)", x.setTracking(true, -1), BAD_VALUE);
        due("setTracking(true, 41)", x.setTracking(true, 41), BAD_VALUE);
        due("setTracking(true, 40)", x.setTracking(true, 40), 0);
        due("setTracking(true, 0)", x.setTracking(true, 0), 1);
        due("setTracking(false, 4)", x.setTracking(false, 4), 1);
        due("setTracking(false, 4)", x.setTracking(false, 4), 0);
        due("setRecovery(0, true)", x.setRecovery(0, true), BAD_VALUE);
        due("setRecovery(10, true)", x.setRecovery(10, true), BAD_VALUE);
        due("setRecovery(9, true)", x.setRecovery(9, true), 2);
        due("setRecovery(1, true)", x.setRecovery(1, true), 9);
        due("setRecovery(2, false)", x.setRecovery(2, false), 1);
        due("all as at first", x.digest(), new BeamTraining().digest());
    }

    /** Each undoable call once, with arguments that change something; true if it was refused. */
    private static boolean refused(BeamTraining x, int which) {
        int answer;
        switch (which) {
            case 0: answer = x.setStation(1, 5, 6, 7); break;
            case 1: answer = x.rotate(0, 9); break;
            case 2: answer = x.addPath(3, 4, 5); break;
            case 3: answer = x.removePath(0); break;
            case 4: answer = x.setDrift(1, 2, 3); break;
            case 5: answer = x.setBlock(2, 33); break;
            case 6: answer = x.setThreshold(-44); break;
            case 7: answer = x.setFade(5, 55); break;
            case 8: answer = x.setTracking(true, 6); break;
            case 9: answer = x.setRecovery(7, true); break;
            case 10: answer = x.sweep(0); break;
            case 11: answer = x.refine(1); break;
            case 12: answer = x.survey(8); break;
            case 13: answer = x.select(0, 20); break;
            case 14: answer = x.pass(3); break;
            default: answer = x.load(); break;
        }
        return answer < NONE;
    }

    private static void eachCallIsUndone() {
        for (int which = 0; which <= 15; which++) {
            BeamTraining x = linked();
            for (char letter : "fade 3".toCharArray()) x.type(letter);
            long before = x.digest();
            due("call " + which + " is refused", refused(x, which) ? 1 : 0, 0);
            due("call " + which + " changes something", x.digest() == before ? 1 : 0, 0);
            due("undo() of call " + which, x.undo(), 5);
            due("the state before call " + which, x.digest(), before);
        }
    }

    private static void latestSixAreKept() {
        BeamTraining x = new BeamTraining();
        long[] digests = new long[9];
        for (int i = 0; i < 9; i++) {
            digests[i] = x.digest();
            due("setThreshold", x.setThreshold(i + 1), i);
            due("setThreshold(999)", x.setThreshold(999), BAD_VALUE);
            due("isUp()", x.isUp(), 0);
        }
        for (int i = 8; i >= 3; i--) {
            due("undo()", x.undo(), i - 3);
            due("the state of before", x.digest(), digests[i]);
        }
        due("undo() of nothing", x.undo(), BAD_STATE);
        due("it changes nothing", x.digest(), digests[3]);
        due("addPath(1, 1, 1)", x.addPath(1, 1, 1), 0);
        due("undo() after a new call", x.undo(), 0);
        due("undo() of nothing", x.undo(), BAD_STATE);
    }

    private static void whatIsSaved() {
        BeamTraining x = new BeamTraining();
        due("a call that changes nothing", x.setThreshold(0), 0);
        due("select without a beam before is no error", x.select(0, 1), NONE);
        due("a sweep that fails is no error", x.sweep(1), 1);
        due("undo()", x.undo(), 2);
        due("undo()", x.undo(), 1);
        due("undo()", x.undo(), 0);
        due("undo()", x.undo(), BAD_STATE);
        x.outage(5);
        x.quality(0, -1, -1);
        x.type('p');
        x.clearText();
        x.textFault();
        due("these are not undoable", x.undo(), BAD_STATE);
        x.refine(0);
        x.refine(2);
        x.sweep(2);
        x.survey(0);
        x.select(0, 48);
        x.select(2, 0);
        x.pass(0);
        x.load();
        due("errors are not saved", x.undo(), BAD_STATE);
    }

    public static void main(String[] args) {
        stations();
        stationErrors();
        turning();
        paths();
        removedPathIsForgotten();
        driftAndBlock();
        settings();
        eachCallIsUndone();
        latestSixAreKept();
        whatIsSaved();
        System.out.println(wrong == 0 ? "all answers are as due" : wrong + " answers are not as due");
        if (wrong != 0) System.exit(1);
    }
}
