/** Boundaries in the description: intervals and events. */
public final class BoundaryIntervalsTest extends Sentences {
    private static final int ALL_HEARD = -200;

    // ---- intervals

    private static void intervalNumbers() {
        BeamTraining x = new BeamTraining();
        due("interval() at first", x.interval(), 0);
        x.pass(1);
        due("interval() of a link that is down", x.interval(), 1);
        x.addPath(0, 0, 40);
        x.sweep(0);
        x.pass(50);
        due("interval() of a link that is up", x.interval(), 51);
    }

    private static void allPathsDriftFirst() {
        BeamTraining x = new BeamTraining();
        for (int path = 0; path < 8; path++) {
            x.addPath(63, 0, 300);
            x.setDrift(path, path % 4, -(path % 4));
        }
        x.pass(1);
        for (int path = 0; path < 8; path++) {
            due("path " + path + " at station 0", x.pathDirection(path, 0), turn(63 + path % 4));
            due("path " + path + " at station 1", x.pathDirection(path, 1), turn(-(path % 4)));
        }
        BeamTraining y = onePathUp();
        y.select(0, 10);
        y.setDrift(0, 1, 0);
        y.setTracking(true, 0);
        y.pass(1);
        due("the drift comes before the tracking", y.beam(0), 11);
    }

    private static void trackingOnlyIfUpAndOn() {
        for (int up = 0; up < 2; up++) {
            for (int on = -1; on < 2; on++) {
                BeamTraining x = onePath();
                if (up == 1) x.sweep(0);
                if (on >= 0) x.setTracking(on == 1, 0);
                int frames = x.frames();
                x.pass(1);
                due("frames of up " + up + " with tracking " + on, x.frames() - frames, up == 0 ? 0 : on == 1 ? 8 : 2);
            }
        }
        due("setTracking at first", new BeamTraining().setTracking(true, 4), 0);
    }

    private static int lowerOf(int sectors, int beam) {
        if (beam < sectors) return Math.floorMod(beam - 1, sectors);
        int narrow = beam - sectors;
        return sectors + Math.floorMod(narrow - 1, 5 * sectors);
    }

    private static int upperOf(int sectors, int beam) {
        if (beam < sectors) return (beam + 1) % sectors;
        int narrow = beam - sectors;
        return sectors + (narrow + 1) % (5 * sectors);
    }

    private static final int TRACKING_THRESHOLD = 50;

    /** What a station's present beam becomes, by the measured qualities of its three frames. */
    private static int trackedBeam(BeamTraining x, int station, int present, int otherGain, int hysteresis, int[] fades) {
        int lower = lowerOf(8, present);
        int upper = upperOf(8, present);
        int own = otherGain + x.gain(station, present, 0) - fades[0];
        int low = otherGain + x.gain(station, lower, 0) - fades[1];
        int high = otherGain + x.gain(station, upper, 0) - fades[2];
        int better = Math.max(low, high);
        if (better < TRACKING_THRESHOLD || own >= TRACKING_THRESHOLD && better < own + hysteresis) return present;
        return high > low ? upper : lower;
    }

    private static int[] fades(int amplitude, int seed, int first) {
        return new int[] {fade(amplitude, seed, first), fade(amplitude, seed, first + 1), fade(amplitude, seed, first + 2)};
    }

    private static void threeFramesOfEachStation() {
        for (int seed = 0; seed < 400; seed++) {
            BeamTraining x = fading(60, seed);
            int beam0 = seed % 6 + 8;
            int beam1 = seed % 5 + 8;
            x.select(0, beam0);
            x.select(1, beam1);
            x.setTracking(true, seed % 41);
            x.setThreshold(TRACKING_THRESHOLD);
            int want0 = trackedBeam(x, 0, beam0, x.gain(1, beam1, 0), seed % 41, fades(60, seed, 1));
            int want1 = trackedBeam(x, 1, beam1, x.gain(0, want0, 0), seed % 41, fades(60, seed, 4));
            x.pass(1);
            due("beam(0) with the seed " + seed, x.beam(0), want0);
            due("beam(1) with the seed " + seed, x.beam(1), want1);
        }
    }

    /** Fades decide between two neighbours that are both two steps off the path, or which of them is heard at all. */
    private static void betterOfTwoNeighbours() {
        for (int difference = -1; difference <= 1; difference++) {
            int wanted = difference;
            int seed = seed(v -> fade(60, v, 1) > 30 && fade(60, v, 2) < 12 && fade(60, v, 3) == fade(60, v, 2) - wanted);
            BeamTraining x = onePathUp();
            x.select(0, 10);
            x.setFade(60, seed);
            x.setTracking(true, 0);
            x.pass(1);
            due("the neighbour whose fade is less by " + difference, x.beam(0), difference > 0 ? 11 : 9);
        }
        for (int heard = 1; heard <= 2; heard++) {
            int wanted = heard;
            int seed = seed(v -> fade(60, v, 1) > 4 && fade(60, v, 2) == wanted && fade(60, v, 3) == 3 - wanted);
            BeamTraining x = onePathUp();
            x.select(0, 10);
            x.setThreshold(80);
            x.setFade(60, seed);
            x.setTracking(true, 40);
            x.pass(1);
            due("the only one that is heard", x.beam(0), heard == 1 ? 9 : 11);
        }
    }

    private static void lowerOfEqualNeighbours() {
        for (int station = 0; station < 2; station++) {
            BeamTraining x = new BeamTraining();
            x.addPath(0, 0, 40);
            x.addPath(32, 32, 40);
            x.sweep(0);
            x.select(station, 2);
            x.select(1 - station, 2);
            x.setThreshold(ALL_HEARD);
            x.setTracking(true, 0);
            x.pass(1);
            due("beam between two equal paths", x.beam(station), 1);
        }
        BeamTraining x = stations(2, 2, 40);
        x.sweep(0);
        x.select(0, 1);
        x.setTracking(true, 0);
        x.pass(1);
        due("the two neighbours of two sectors are one", x.beam(0), 0);
    }

    /** The path stands one step above the present narrow beam: its upper neighbour is heard with 96, itself with 93. */
    private static void neighbourOfABeamThatIsNotHeard() {
        for (int threshold = 93; threshold <= 97; threshold++) {
            BeamTraining x = new BeamTraining();
            x.addPath(1, 0, 40);
            x.sweep(0);
            x.select(0, 10);
            x.select(1, 10);
            x.setTracking(true, 40);
            x.setThreshold(threshold);
            x.pass(1);
            due("beam(0) with the threshold " + threshold, x.beam(0), threshold < 94 || threshold > 96 ? 10 : 11);
            due("eventCount()", x.eventCount(), threshold < 94 || threshold > 96 ? 1 : 2);
        }
    }

    /** The path stands one step above the present narrow beam: the upper neighbour is better by 3, and by their fades. */
    private static void hysteresisOfFades(int hysteresis, int difference) {
        int seed = seed(v -> 3 + fade(60, v, 1) - fade(60, v, 3) == difference && 36 - fade(60, v, 2) < 48 - fade(60, v, 3));
        BeamTraining x = new BeamTraining();
        x.addPath(1, 0, 40);
        x.sweep(0);
        x.select(0, 10);
        x.setThreshold(ALL_HEARD);
        x.setTracking(true, hysteresis);
        x.setFade(60, seed);
        x.pass(1);
        due("beam(0) with " + hysteresis + " of " + difference, x.beam(0), hysteresis <= difference ? 11 : 10);
    }

    /** With 16 sectors the present beam stands 7, 6 or 5 away from the path, and its lower neighbour 3, 2 or 1. */
    private static void hysteresisIsReached() {
        outside("the hysteresis", 0, 40, BAD_VALUE, (x, v) -> x.setTracking(true, v));
        for (int hysteresis = 0; hysteresis <= 40; hysteresis++) {
            hysteresisOfFades(hysteresis, hysteresis - 1);
            hysteresisOfFades(hysteresis, hysteresis);
        }
        for (int away = 5; away <= 7; away++) {
            int difference = wide(away - 4) - wide(away);
            for (int hysteresis = difference - 1; hysteresis <= Math.min(40, difference + 1); hysteresis++) {
                BeamTraining x = new BeamTraining();
                x.setStation(0, 16, 0, 40);
                x.addPath(12 - away, 0, 0);
                x.sweep(0);
                x.select(0, 3);
                x.setTracking(true, hysteresis);
                x.pass(1);
                due("beam(0) with " + hysteresis + " of " + difference, x.beam(0), hysteresis <= difference ? 2 : 3);
            }
        }
        for (int difference = 3; difference <= 4; difference++) {
            int wanted = difference;
            int seed = seed(v -> fade(9, v, 1) == 0 && 9 - fade(9, v, 3) == wanted);
            BeamTraining x = typed("path 3 0 0;fade 9");
            x.load();
            x.sweep(0);
            x.select(0, 11);
            x.setFade(9, seed);
            due("tracking at first", x.setTracking(true, 4), 0);
            x.pass(1);
            due("beam(0) with 4 of " + difference, x.beam(0), difference == 4 ? 12 : 11);
        }
        due("the hysteresis at first", sameAsFirst(4) ? 1 : 0, 1);
    }

    private static boolean sameAsFirst(int hysteresis) {
        BeamTraining x = new BeamTraining();
        x.setTracking(false, hysteresis);
        return x.digest() == new BeamTraining().digest();
    }

    /** A path that the wanted neighbour alone hears best; the present beam moves there. */
    private static void moves(int sectors, int from, int to) {
        BeamTraining x = new BeamTraining();
        x.setStation(0, sectors, 0, 100);
        x.addPath(x.direction(0, to), 0, 0);
        due("sweep(0)", x.sweep(0), 0);
        x.select(0, from);
        x.setTracking(true, 0);
        x.pass(1);
        due("the neighbour of " + from + " of " + sectors + " sectors", x.beam(0), to);
    }

    private static void neighboursOfWideBeams() {
        for (int sectors : new int[] {3, 8, 16}) {
            for (int k = 0; k < sectors; k++) {
                moves(sectors, k, (k + 1) % sectors);
                moves(sectors, k, (k + sectors - 1) % sectors);
            }
        }
        moves(2, 0, 1);
        moves(2, 1, 0);
    }

    private static void neighboursOfNarrowBeams() {
        for (int sectors : new int[] {3, 8, 16}) {
            for (int k = 0; k < sectors; k++) {
                moves(sectors, sectors + 5 * k, sectors + 5 * ((k + sectors - 1) % sectors) + 4);
                moves(sectors, sectors + 5 * k + 4, sectors + 5 * ((k + 1) % sectors));
            }
        }
    }

    private static void neighboursWithinASector() {
        for (int sectors : new int[] {2, 3, 8, 16}) {
            for (int k = 0; k < sectors; k++) {
                for (int f = -1; f <= 2; f++) moves(sectors, sectors + 5 * k + f + 2, sectors + 5 * k + f + 1);
                for (int f = -2; f <= 1; f++) moves(sectors, sectors + 5 * k + f + 2, sectors + 5 * k + f + 3);
            }
        }
    }

    private static void sectorsOfNeighboursGoRound() {
        for (int sectors = 3; sectors <= 16; sectors++) {
            moves(sectors, 0, sectors - 1);
            moves(sectors, sectors - 1, 0);
            moves(sectors, sectors, 6 * sectors - 1);
            moves(sectors, 6 * sectors - 1, sectors);
        }
        moves(2, 2, 11);
        moves(2, 11, 2);
    }

    private static void dataFramesOnlyIfUp() {
        BeamTraining x = onePath();
        x.pass(50);
        due("frames() of a link that is down", x.frames(), 0);
        due("failures()", x.failures(), 0);
        x.sweep(0);
        x.pass(1);
        due("frames() of a link that is up", x.frames(), 18 + 2);
        due("time()", x.time(), 274 + 4);
        x.setThreshold(200);
        x.pass(50);
        due("frames() until the link is down", x.frames(), 20 + 4);
        due("failures() then", x.failures(), 0);
    }

    /** The level of both frames is 72; which of them is heard is told by their fades. */
    private static void failuresOfOneOrBothFrames() {
        for (int lost = 0; lost < 4; lost++) {
            int wanted = lost;
            int seed = seed(v -> fade(60, v, 1) > 30 == (wanted & 1) > 0 && fade(60, v, 2) > 30 == (wanted & 2) > 0);
            BeamTraining x = onePathUp();
            due("failures() at first", x.failures(), 0);
            x.setRecovery(9, false);
            x.setThreshold(73);
            x.pass(3);
            due("failures() after three", x.failures(), 3);
            x.setThreshold(42);
            x.setFade(60, seed);
            x.pass(1);
            due("failures() with " + lost + " lost", x.failures(), lost == 0 ? 0 : 4);
            due("isUp()", x.isUp(), 1);
        }
        for (int station = 0; station < 2; station++) {
            for (int threshold = 84; threshold <= 85; threshold++) {
                BeamTraining x = onePath();
                x.setStation(station, 16, 0, 60);
                x.sweep(0);
                x.select(station, 16 + 2);
                x.select(1 - station, 8 + 4);
                x.setThreshold(threshold);
                x.pass(1);
                due("failures() with the weaker frame at 84, threshold " + threshold, x.failures(), threshold - 84);
            }
        }
    }

    private static void patienceIsReached() {
        range("the patience", 1, 9, (x, v) -> x.setRecovery(v, true), x -> x.setRecovery(1, true));
        due("the patience at first", new BeamTraining().setRecovery(1, false), 2);
        for (int patience = 1; patience <= 9; patience++) {
            BeamTraining x = onePathUp();
            x.setRecovery(patience, false);
            x.setThreshold(73);
            for (int n = 1; n < patience; n++) {
                due("pass(1)", x.pass(1), 1);
                due("failures()", x.failures(), n);
            }
            due("the last pass(1) of " + patience, x.pass(1), 0);
            due("failures() then", x.failures(), 0);
            event(x, 0, 2, 0, patience);
        }
        for (int patience = 1; patience <= 9; patience++) {
            BeamTraining x = onePathUp();
            x.setRecovery(9, false);
            x.setThreshold(73);
            x.pass(7);
            x.setRecovery(patience, false);
            due("failures() beside the patience " + patience, x.failures(), 7);
            due("pass(1) with the eighth failure", x.pass(1), patience <= 8 ? 0 : 1);
            due("failures() then", x.failures(), patience <= 8 ? 0 : 8);
        }
        BeamTraining first = onePathUp();
        first.setThreshold(73);
        due("pass(1)", first.pass(1), 1);
        due("pass(1) with the patience at first", first.pass(1), 0);
    }

    /** Four sectors each, three backups beside the present beams, and paths of which some are blocked. */
    private static BeamTraining backedUp() {
        BeamTraining x = new BeamTraining();
        for (int p = 0; p < 4; p++) x.addPath(16 * p, 16 * p, 40 + p);
        x.sweep(0);
        due("survey(8)", x.survey(8), 3);
        x.setRecovery(1, false);
        x.setBlock(0, 200);
        return x;
    }

    private static void backupsInAscendingOrder() {
        for (int blocked = 0; blocked <= 3; blocked++) {
            BeamTraining x = backedUp();
            for (int p = 1; p <= blocked; p++) x.setBlock(p, 200);
            int frames = x.frames();
            int time = x.time();
            due("pass(1) with " + blocked + " blocked", x.pass(1), blocked < 3 ? 1 : 0);
            due("frames", x.frames() - frames, 2 + Math.min(3, blocked + 1));
            due("time", x.time() - time, 4 + 4 * Math.min(3, blocked + 1));
            due("beam(0)", x.beam(0), blocked < 3 ? 2 * blocked + 2 : 0);
            due("beam(1)", x.beam(1), blocked < 3 ? 2 * blocked + 2 : 0);
            event(x, 0, blocked < 3 ? 3 : 2, blocked < 3 ? blocked : 0, 1);
        }
        for (int threshold = 71; threshold <= 72; threshold++) {
            BeamTraining x = backedUp();
            x.setThreshold(threshold);
            due("a backup at the threshold " + threshold, x.pass(1), threshold == 71 ? 1 : 0);
        }
    }

    private static void beamsOfTheTakenBackup() {
        BeamTraining x = new BeamTraining();
        x.addPath(0, 0, 40);
        x.addPath(16, 48, 41);
        x.addPath(48, 32, 41);
        x.sweep(0);
        due("survey(8)", x.survey(8), 2);
        x.setRecovery(1, false);
        x.setBlock(0, 200);
        for (int b = 0; b < 2; b++) {
            int beam0 = x.backupBeam(0, 0);
            int beam1 = x.backupBeam(0, 1);
            due("pass(1)", x.pass(1), 1);
            due("beam(0)", x.beam(0), beam0);
            due("beam(1)", x.beam(1), beam1);
            due("they differ", beam0 == beam1 ? 1 : 0, 0);
            due("isUp()", x.isUp(), 1);
            x.setBlock(1, 200);
        }
    }

    private static void takenBackupIsRemoved() {
        for (int taken = 0; taken < 3; taken++) {
            BeamTraining x = backedUp();
            for (int p = 1; p <= taken; p++) x.setBlock(p, 200);
            x.pass(1);
            due("backupCount()", x.backupCount(), 2);
            int number = 0;
            for (int b = 0; b < 3; b++) {
                if (b != taken) backup(x, number++, 2 * b + 2, 2 * b + 2, 71 - b);
            }
            due("backupQuality(2)", x.backupQuality(2), BAD_INDEX);
        }
        BeamTraining x = backedUp();
        for (int left = 2; left >= 0; left--) {
            due("pass(1)", x.pass(1), 1);
            due("backupCount()", x.backupCount(), left);
            x.setBlock(3 - left, 200);
        }
        due("pass(1) without backups", x.pass(1), 0);
    }

    private static void downWithoutABackup() {
        for (int backups = 0; backups <= 1; backups++) {
            BeamTraining x = onePathUp();
            x.addPath(32, 32, 60);
            if (backups == 1) due("survey(8)", x.survey(8), 1);
            x.select(0, 9);
            x.setBlock(0, 200);
            x.setBlock(1, 200);
            x.setRecovery(1, false);
            due("pass(1)", x.pass(1), 0);
            due("isUp()", x.isUp(), 0);
            due("beam(0) stays", x.beam(0), 9);
            due("beam(1) stays", x.beam(1), 0);
            due("backupCount() stays", x.backupCount(), backups);
            event(x, 0, 2, 0, 1);
        }
    }

    private static void automaticSweeps() {
        BeamTraining off = onePath();
        due("pass(1) at first", off.pass(1), 0);
        due("frames()", off.frames(), 0);
        off.setRecovery(2, true);
        due("pass(1) with automatic sweeps", off.pass(1), 1);
        due("frames()", off.frames(), 18);
        event(off, 0, 1, 0, 2);
        due("pass(1) of a link that is up", off.pass(1), 1);
        due("frames() without a sweep", off.frames(), 20);
        off.setRecovery(1, true);
        off.setThreshold(40);
        off.select(0, 3);
        due("pass(1) of a link that goes down", off.pass(1), 0);
        due("frames() of a sweep in the same interval", off.frames(), 20 + 2 + 8);
        event(off, 1, 2, 0, 4);
        event(off, 0, 5, 1, 4);
        off.setRecovery(1, false);
        due("pass(1) without automatic sweeps", off.pass(1), 0);
        due("frames()", off.frames(), 30);
    }

    // ---- events

    private static void sweepsThatSucceed() {
        for (int initiator = 0; initiator < 2; initiator++) {
            BeamTraining x = onePath();
            x.sweep(initiator);
            due("eventCount()", x.eventCount(), 1);
            event(x, 0, 1, initiator, 0);
        }
    }

    private static void linkWentDown() {
        BeamTraining x = onePathUp();
        x.setThreshold(200);
        x.pass(1);
        due("eventCount() before the patience is reached", x.eventCount(), 1);
        x.pass(50);
        due("eventCount() after one going down", x.eventCount(), 2);
        event(x, 0, 2, 0, 2);
        x.undo();
        x.undo();
        x.sweep(0);
        due("a sweep that takes the link down is no going down", x.eventKind(0), 5);
        due("eventCount()", x.eventCount(), 2);
    }

    private static void numbersOfTakenBackups() {
        for (int taken = 0; taken < 3; taken++) {
            BeamTraining x = backedUp();
            for (int p = 1; p <= taken; p++) x.setBlock(p, 200);
            x.pass(1);
            event(x, 0, 3, taken, 1);
            due("eventCount()", x.eventCount(), 2);
        }
    }

    private static void trackedStations() {
        for (int station = 0; station < 2; station++) {
            BeamTraining x = onePathUp();
            x.select(station, 9);
            x.select(1 - station, 10);
            x.setTracking(true, 1);
            x.pass(1);
            event(x, 0, 4, station, 1);
            x.pass(1);
            due("eventCount() when nothing changes any more", x.eventCount(), 2);
        }
    }

    private static void sweepsThatFail() {
        for (int result = 1; result <= 4; result++) {
            BeamTraining x = onePath();
            x.setFade(60, seedOfResult(result));
            due("sweep(1)", x.sweep(1), result);
            due("eventCount()", x.eventCount(), 1);
            event(x, 0, 5, result, 0);
        }
    }

    private static void intervalsOfEvents() {
        BeamTraining x = new BeamTraining();
        x.sweep(0);
        event(x, 0, 5, 1, 0);
        x.pass(50);
        x.sweep(0);
        event(x, 0, 5, 1, 50);
        x.setRecovery(2, true);
        x.pass(1);
        event(x, 0, 5, 1, 51);
        event(x, 2, 5, 1, 0);
    }

    private static void twentyEvents() {
        BeamTraining x = new BeamTraining();
        x.setRecovery(2, true);
        for (int n = 1; n <= 45; n++) {
            x.pass(1);
            int kept = Math.min(20, n);
            due("eventCount() after " + n, x.eventCount(), kept);
            event(x, 0, 5, 1, n);
            event(x, kept - 1, 5, 1, n - kept + 1);
            due("eventKind behind the oldest", x.eventKind(kept), BAD_INDEX);
        }
    }

    private static void intervalsSentences() {
        section("Intervals");
        test("The interval number (0 at first) increases by 1", BoundaryIntervalsTest::intervalNumbers);
        test("the directions of all paths change by their drifts", BoundaryIntervalsTest::allPathsDriftFirst);
        test("If the link is up and tracking is on (off at first)", BoundaryIntervalsTest::trackingOnlyIfUpAndOn);
        test("sends three data frames: with its present beam, with the lower neighbour of this beam, and with the upper neighbour",
            BoundaryIntervalsTest::threeFramesOfEachStation);
        test("The better neighbour is the one whose frame was heard with the greater measured quality",
            BoundaryIntervalsTest::betterOfTwoNeighbours);
        test("the lower one if both are equal", BoundaryIntervalsTest::lowerOfEqualNeighbours);
        test("If there is one, and the first frame was not heard", BoundaryIntervalsTest::neighbourOfABeamThatIsNotHeard);
        test("is at least that of the first frame plus the hysteresis (0 to 40; 4 at first)",
            BoundaryIntervalsTest::hysteresisIsReached);
        test("The lower and the upper neighbour of a wide beam of sector k are the wide beams of the sectors k - 1 and k + 1",
            BoundaryIntervalsTest::neighboursOfWideBeams);
        test("those of a narrow beam of sector k with f are the narrow beams of sector k with f - 1 and f + 1",
            BoundaryIntervalsTest::neighboursWithinASector);
        test("but with 2 of sector k - 1 instead of f - 1 if f is -2, and with -2 of sector k + 1 instead of f + 1 if f is 2",
            BoundaryIntervalsTest::neighboursOfNarrowBeams);
        test("sectors are taken modulo the number of sectors", BoundaryIntervalsTest::sectorsOfNeighboursGoRound);
        test("If the link is up, station 0 sends a data frame, and then station 1", BoundaryIntervalsTest::dataFramesOnlyIfUp);
        test("If both are heard, the number of failures (0 at first) becomes 0, otherwise it increases by 1.",
            BoundaryIntervalsTest::failuresOfOneOrBothFrames);
        test("If it is then at least the patience (1 to 9; 2 at first), it becomes 0", BoundaryIntervalsTest::patienceIsReached);
        test("the backups are tried in ascending order", BoundaryIntervalsTest::backupsInAscendingOrder);
        test("With the first one that is heard both beams become the present beams of the stations",
            BoundaryIntervalsTest::beamsOfTheTakenBackup);
        test("this backup is removed (the numbers of those after it decrease by 1)", BoundaryIntervalsTest::takenBackupIsRemoved);
        test("If none is heard, the link is down; the present beams stay.", BoundaryIntervalsTest::downWithoutABackup);
        test("If the link is down, and automatic sweeps are on (off at first), a sweep with the initiator 0 is done.",
            BoundaryIntervalsTest::automaticSweeps);
    }

    private static void eventsSentences() {
        section("Events");
        test("1: a sweep had the result 0 (the value is the initiator)", BoundaryIntervalsTest::sweepsThatSucceed);
        test("2: the link went down in step 3 of an interval (0)", BoundaryIntervalsTest::linkWentDown);
        test("3: a backup was taken (its number)", BoundaryIntervalsTest::numbersOfTakenBackups);
        test("4: tracking changed the present beam of a station (the station)", BoundaryIntervalsTest::trackedStations);
        test("5: a sweep had another result (the result)", BoundaryIntervalsTest::sweepsThatFail);
        test("an interval number (the present one when it happens)", BoundaryIntervalsTest::intervalsOfEvents);
        test("The latest 20 events are kept.", BoundaryIntervalsTest::twentyEvents);
    }

    public static void main(String[] args) {
        intervalsSentences();
        eventsSentences();
        end();
    }
}
