import java.util.ArrayList;
import java.util.List;
import java.util.function.Supplier;

/** Boundaries of training, and of what is asked: the promises 16 to 20, and 22 to 46. */
public final class BoundaryCallsTest extends Sentences {

    // ---- promises 16 to 20

    private static void sweepResults() {
        for (int result = 0; result <= 4; result++) {
            int seed = seedOfResult(result);
            for (int initiator = 0; initiator < 2; initiator++) {
                BeamTraining x = onePath();
                x.setFade(60, seed);
                due("sweep(" + initiator + ")", x.sweep(initiator), result);
                due("frames()", x.frames(), result == 0 ? 18 : BEST_FRAMES[result - 1]);
                due("isUp()", x.isUp(), result == 0 ? 1 : 0);
            }
        }
    }

    private static void beamAfterRefining() {
        BeamTraining x = onePathUp();
        due("refine(0)", x.refine(0), 10);
        due("beam(0)", x.beam(0), 10);
        due("refine(1)", x.refine(1), 10);
        due("refine(1) of the best beam", x.refine(1), 10);
        x.setThreshold(200);
        due("refine(0) that is not heard", x.refine(0), 10);
    }

    private static void refineOfALinkThatIsDown() {
        refused("refine(0) of a new object", BAD_STATE, BeamTraining::new, x -> x.refine(0));
        refused("refine(1) of a new object", BAD_STATE, BeamTraining::new, x -> x.refine(1));
        Supplier<BeamTraining> down = () -> {
            BeamTraining x = onePathUp();
            x.setThreshold(200);
            x.pass(2);
            return x;
        };
        due("beam(0) of the link that went down", down.get().beam(0), 0);
        refused("refine(0) of a link that went down", BAD_STATE, down, x -> x.refine(0));
        refused("refine(1) of a link that went down", BAD_STATE, down, x -> x.refine(1));
        BeamTraining x = onePathUp();
        x.setThreshold(200);
        x.pass(1);
        due("refine(0) of a link that is just up", x.refine(0), 0);
    }

    private static void surveySeparation() {
        for (int d = 1; d <= 32; d++) {
            BeamTraining x = stations(2, 2, 0);
            x.setThreshold(-200);
            due("survey(" + d + ")", x.survey(d), 2);
        }
        refused("survey(0)", BAD_VALUE, x -> x.survey(0));
        refused("survey(33)", BAD_VALUE, x -> x.survey(33));
    }

    private static void surveyOutOfRange() {
        outside("survey", 1, 32, BAD_VALUE, (x, v) -> x.survey(v));
        refused("survey(0) of a new object", BAD_VALUE, BeamTraining::new, x -> x.survey(0));
        refused("survey(33) of a new object", BAD_VALUE, BeamTraining::new, x -> x.survey(33));
    }

    private static void numberOfBackupsFound() {
        int[] found = {0, 1, 2, 3, 3};
        for (int paths = 0; paths <= 4; paths++) {
            BeamTraining x = new BeamTraining();
            for (int p = 0; p < paths; p++) x.addPath(16 * p, 16 * p, 40);
            due("survey(1) with " + paths + " good pairs", x.survey(1), found[paths]);
            due("backupCount()", x.backupCount(), found[paths]);
        }
    }

    private static void selectBeams() {
        for (int sectors : new int[] {2, 8, 16}) {
            BeamTraining x = stations(sectors, sectors, 40);
            int before = NONE;
            for (int beam = 0; beam < 6 * sectors; beam++) {
                due("select(0, " + beam + ")", x.select(0, beam), before);
                due("beam(0)", x.beam(0), beam);
                before = beam;
            }
        }
    }

    private static void selectLeavesAllElse() {
        for (int station = 0; station < 2; station++) {
            BeamTraining x = onePathUp();
            int seed = 1;
            long h = 17;
            for (int i = 0; i < 18; i++) seed = seed * 1664525 + 1013904223;
            due("select", x.select(station, 47), 0);
            List<Integer> all = new ArrayList<>(List.of(1, 0, 0, 18, 274, seed));
            for (int s = 0; s < 2; s++) {
                all.addAll(List.of(8, 0, 40, s == station ? 47 : 0, 36, NONE, NONE, NONE, NONE, NONE, NONE, NONE));
            }
            all.addAll(List.of(0, 0, 40, 0, 0, 0, 1, 0, 0, 0, 0, 0, 4, 2, 0));
            for (int v : all) h = 31 * h + v;
            due("all else", x.digest(), h);
        }
        BeamTraining down = new BeamTraining();
        down.select(0, 1);
        down.select(1, 1);
        due("the link stays down", down.isUp(), 0);
    }

    private static void previousBeam() {
        BeamTraining x = new BeamTraining();
        due("select of the first beam", x.select(1, 47), NONE);
        due("select after it", x.select(1, 0), 47);
        due("select of the same", x.select(1, 0), 0);
        due("select of the other station", x.select(0, 5), NONE);
        x.setStation(1, 8, 0, 40);
        due("select after setStation", x.select(1, 3), NONE);
    }

    private static void selectOfNoBeam() {
        for (int station = 0; station < 2; station++) {
            int asked = station;
            for (int beam : new int[] {LEAST, NONE, -2, -1, 48, 49, MOST}) {
                refused("select of " + beam, BAD_VALUE, x -> x.select(asked, beam));
                refused("select of " + beam + " at first", BAD_VALUE, BeamTraining::new, x -> x.select(asked, beam));
            }
        }
    }

    private static void passMany() {
        for (int many = 1; many <= 50; many++) {
            BeamTraining x = onePathUp();
            due("pass(" + many + ")", x.pass(many), 1);
            due("interval()", x.interval(), many);
            due("frames()", x.frames(), 18 + 2 * many);
        }
        refused("pass(0)", BAD_VALUE, x -> x.pass(0));
        refused("pass(51)", BAD_VALUE, x -> x.pass(51));
    }

    private static void passOutOfRange() {
        outside("pass", 1, 50, BAD_VALUE, (x, v) -> x.pass(v));
        refused("pass(0) of a new object", BAD_VALUE, BeamTraining::new, x -> x.pass(0));
        refused("pass(51) of a new object", BAD_VALUE, BeamTraining::new, x -> x.pass(51));
    }

    private static void upOrDownAfterPassing() {
        BeamTraining x = onePathUp();
        due("pass(50) of a good link", x.pass(50), 1);
        x.setThreshold(200);
        due("the last interval of a link", x.pass(1), 1);
        due("pass(1) that takes it down", x.pass(1), 0);
        due("pass(50) of a link that is down", x.pass(50), 0);
        x.setThreshold(0);
        x.setRecovery(2, true);
        due("pass(1) that brings it up", x.pass(1), 1);
    }

    // ---- promises 22 to 32

    private static void upOrNot() {
        BeamTraining x = onePath();
        due("isUp() at first", x.isUp(), 0);
        x.sweep(0);
        due("isUp() after a sweep", x.isUp(), 1);
        x.setThreshold(200);
        x.pass(1);
        due("isUp() before the patience is reached", x.isUp(), 1);
        x.pass(1);
        due("isUp() when it is reached", x.isUp(), 0);
    }

    private static void noBeam() {
        for (int station = 0; station < 2; station++) {
            BeamTraining x = new BeamTraining();
            due("beam at first", x.beam(station), NONE);
            x.select(station, 0);
            due("the first beam", x.beam(station), 0);
            x.select(station, 47);
            due("the last beam", x.beam(station), 47);
            due("beam of the other station", x.beam(1 - station), NONE);
            x.setStation(station, 8, 0, 40);
            due("beam after setStation", x.beam(station), NONE);
        }
    }

    private static void directionsOfBeams() {
        for (int sectors = 2; sectors <= 16; sectors++) {
            BeamTraining x = new BeamTraining();
            x.setStation(1, sectors, 62, 40);
            for (int beam = 0; beam < 6 * sectors; beam++) {
                int k = beam < sectors ? beam : (beam - sectors) / 5;
                int f = beam < sectors ? 0 : (beam - sectors) % 5 - 2;
                due("direction(1, " + beam + ")", x.direction(1, beam), turn(62 + 64 * k / sectors + f));
            }
        }
    }

    private static void directionOfNoBeam() {
        for (int sectors : new int[] {2, 16}) {
            Supplier<BeamTraining> setup = () -> stations(sectors, sectors, 0);
            for (int beam : new int[] {LEAST, NONE, -2, -1, 6 * sectors, 6 * sectors + 1, MOST}) {
                refused("direction(0, " + beam + ")", BAD_VALUE, setup, x -> x.direction(0, beam));
                refused("direction(1, " + beam + ")", BAD_VALUE, setup, x -> x.direction(1, beam));
            }
        }
    }

    private static void gainBeams() {
        BeamTraining x = new BeamTraining();
        x.setStation(0, 16, 63, 40);
        for (int beam = -1; beam < 96; beam++) {
            for (int toward : new int[] {0, 1, 31, 32, 62, 63}) {
                int d = beam < 0 ? 0 : angle(x.direction(0, beam), toward);
                int want = beam < 0 ? 0 : beam < 16 ? wide(d) : narrow(d);
                due("gain(0, " + beam + ", " + toward + ")", x.gain(0, beam, toward), want);
            }
        }
    }

    private static void gainToward() {
        BeamTraining x = new BeamTraining();
        for (int toward = 0; toward <= 63; toward++) due("gain", x.gain(0, 4, toward), wide(angle(32, toward)));
        outside("toward", 0, 63, BAD_VALUE, (y, v) -> y.gain(0, 0, v));
        outside("toward of OMNI", 0, 63, BAD_VALUE, (y, v) -> y.gain(0, -1, v));
    }

    private static void gainOutOfRange() {
        for (int station = 0; station < 2; station++) {
            int asked = station;
            for (int beam : new int[] {LEAST, NONE, -2, 48, 49, MOST}) {
                refused("gain of the beam " + beam, BAD_VALUE, x -> x.gain(asked, beam, 0));
            }
            refused("gain toward -1", BAD_VALUE, x -> x.gain(asked, 47, -1));
            refused("gain toward 64", BAD_VALUE, x -> x.gain(asked, 47, 64));
        }
    }

    private static void heardSectors() {
        for (int[] sectors : new int[][] {{2, 16}, {16, 2}}) {
            for (int station = 0; station < 2; station++) {
                int asked = station;
                each("heard", sectors[1 - station], () -> stations(sectors[0], sectors[1], 0), (x, v) -> x.heard(asked, v));
            }
        }
    }

    private static void noEntry() {
        BeamTraining x = onePath();
        for (int k = 0; k < 8; k++) due("heard at first", x.heard(1, k), NONE);
        x.setThreshold(36);
        x.sweep(0);
        due("heard at the threshold", x.heard(1, 0), 36);
        for (int k = 1; k < 8; k++) due("heard of a frame that was not heard", x.heard(1, k), NONE);
        x.setThreshold(-200);
        x.sweep(0);
        for (int k = 0; k < 8; k++) due("heard", x.heard(1, k), wide(angle(8 * k, 0)));
    }

    private static void noStationOrSector() {
        for (int other : new int[] {LEAST, -1, 8, MOST}) {
            refused("heard of no sector", BAD_INDEX, x -> x.heard(0, other));
            refused("heard of no sector", BAD_INDEX, x -> x.heard(1, other));
            refused("heard of no station", BAD_INDEX, x -> x.heard(other, 0));
            refused("heard of neither", BAD_INDEX, x -> x.heard(other, other));
        }
    }

    private static void numberOfFailures() {
        BeamTraining x = onePathUp();
        due("failures() at first", new BeamTraining().failures(), 0);
        x.setRecovery(9, false);
        x.setThreshold(200);
        for (int n = 1; n <= 8; n++) {
            x.pass(1);
            due("failures()", x.failures(), n);
        }
        x.pass(1);
        due("failures() when the patience is reached", x.failures(), 0);
        x.pass(1);
        due("failures() of a link that is down", x.failures(), 0);
    }

    private static void intervalNumber() {
        BeamTraining x = new BeamTraining();
        due("interval() at first", x.interval(), 0);
        for (int n = 1; n <= 255; n++) {
            x.pass(50);
            due("interval()", x.interval(), 50 * n);
        }
        asksOnly("interval()", BeamTraining::interval);
    }

    private static void framesSent() {
        BeamTraining x = new BeamTraining();
        due("frames() at first", x.frames(), 0);
        x.pass(1);
        due("frames() of an interval without a link", x.frames(), 0);
        x.sweep(0);
        due("frames() of a sweep that nobody hears", x.frames(), 8);
        x.setStation(0, 16, 0, 40);
        x.setStation(1, 16, 0, 40);
        x.survey(32);
        due("frames() of the longest survey", x.frames(), 8 + 256);
        asksOnly("frames()", BeamTraining::frames);
    }

    private static void timeOfFrames() {
        BeamTraining x = new BeamTraining();
        due("time() at first", x.time(), 0);
        x.pass(1);
        due("time() of an interval without a link", x.time(), 0);
        for (int n = 1; n <= 400; n++) {
            x.sweep(0);
            due("time() of " + n + " sweeps", x.time(), 128 * n);
        }
    }

    private static void numberOfPaths() {
        BeamTraining x = new BeamTraining();
        due("pathCount() at first", x.pathCount(), 0);
        for (int n = 1; n <= 8; n++) {
            x.addPath(0, 0, 0);
            due("pathCount()", x.pathCount(), n);
        }
        x.addPath(0, 0, 0);
        due("pathCount() after a ninth one is refused", x.pathCount(), 8);
        for (int n = 7; n >= 0; n--) {
            x.removePath(0);
            due("pathCount()", x.pathCount(), n);
        }
    }

    private static void directionsOfPaths() {
        for (int many : new int[] {1, 7, 8}) {
            each("pathDirection at station 0", many, () -> withPaths(many), (x, v) -> x.pathDirection(v, 0));
            each("pathDirection at station 1", many, () -> withPaths(many), (x, v) -> x.pathDirection(v, 1));
        }
        for (int path = 0; path < 8; path++) {
            due("pathDirection at station 0", withPaths(8).pathDirection(path, 0), path);
            due("pathDirection at station 1", withPaths(8).pathDirection(path, 1), 63 - path);
        }
    }

    private static void noPathOrStation() {
        for (int many : new int[] {0, 1, 7, 8}) {
            noSuch("pathDirection at station 0", many, () -> withPaths(many), (x, v) -> x.pathDirection(v, 0));
            noSuch("pathDirection at station 1", many, () -> withPaths(many), (x, v) -> x.pathDirection(v, 1));
        }
        noSuchStation("pathDirection", (x, v) -> x.pathDirection(0, v));
    }

    // ---- promises 33 to 38

    private static void qualityBeams0() {
        BeamTraining x = stations(2, 16, 40);
        for (int beam = -1; beam < 12; beam++) {
            due("beam0 " + beam, x.quality(0, beam, -1), x.gain(0, beam, 0));
            due("beam0 " + beam, x.quality(1, beam, 95), x.gain(0, beam, 0) + x.gain(1, 95, 0));
        }
        due("beam0 -2", x.quality(0, -2, -1), BAD_VALUE);
        due("beam0 12 of 2 sectors", x.quality(0, 12, -1), BAD_VALUE);
    }

    private static void qualityBeams1() {
        BeamTraining x = stations(2, 16, 40);
        for (int beam = -1; beam < 96; beam++) {
            due("beam1 " + beam, x.quality(1, -1, beam), x.gain(1, beam, 0));
            due("beam1 " + beam, x.quality(0, 11, beam), x.gain(0, 11, 0) + x.gain(1, beam, 0));
        }
        due("beam1 -2", x.quality(0, -1, -2), BAD_VALUE);
        due("beam1 96 of 16 sectors", x.quality(0, -1, 96), BAD_VALUE);
    }

    private static void qualityOfNoBeam() {
        for (int from = 0; from < 2; from++) {
            int asked = from;
            for (int beam : new int[] {LEAST, NONE, -2, 12, 13, MOST}) {
                refused("beam0 " + beam, BAD_VALUE, () -> stations(2, 16, 40), x -> x.quality(asked, beam, 95));
            }
            for (int beam : new int[] {LEAST, NONE, -2, 96, 97, MOST}) {
                refused("beam1 " + beam, BAD_VALUE, () -> stations(2, 16, 40), x -> x.quality(asked, 11, beam));
            }
        }
    }

    private static void noQualityWithoutPaths() {
        for (int from = 0; from < 2; from++) {
            BeamTraining x = new BeamTraining();
            due("quality at first", x.quality(from, 0, 47), NONE);
            x.addPath(32, 32, 300);
            x.setBlock(0, 200);
            due("quality of one weak path", x.quality(from, 0, 47), 40 - 40 - 40 - 500);
            x.removePath(0);
            due("quality without paths again", x.quality(from, 0, 47), NONE);
        }
    }

    private static void noFrameIsSent() {
        asksOnly("quality", x -> x.quality(0, 47, 47));
        BeamTraining x = linked();
        int frames = x.frames();
        x.quality(1, -1, -1);
        due("frames()", x.frames(), frames);
    }

    private static void lowestOfBestPairs() {
        BeamTraining all = new BeamTraining();
        all.setStation(0, 2, 16, 40);
        all.setStation(1, 2, 16, 40);
        all.addPath(0, 0, 0);
        due("bestPair() of four equal pairs", all.bestPair(), 0);
        BeamTraining x = new BeamTraining();
        x.addPath(60, 0, 0);
        due("of the sectors 7 and 0 of station 0", x.bestPair(), 0);
        x = new BeamTraining();
        x.addPath(20, 60, 0);
        due("of 2 and 3, and of 7 and 0", x.bestPair(), 32);
        x = new BeamTraining();
        x.addPath(8, 56, 0);
        x.addPath(56, 8, 0);
        due("of (1, 7) and (7, 1) the lowest beam of station 0", x.bestPair(), 16 + 7);
        x = new BeamTraining();
        x.addPath(8, 56, 0);
        x.addPath(8, 16, 0);
        due("of (1, 7) and (1, 2) the lowest beam of station 1", x.bestPair(), 16 + 2);
        x.addPath(8, 56, 0);
        due("a greater quality before the lowest beam", x.bestPair(), 16 + 7);
    }

    /**
     * Seven paths that the sectors 1 hear, and one that the sectors 0 hear. The sum of the seven is so near to the power
     * of a level that the rounding of floats puts it above this level with one transmit power, below it with the other.
     */
    private static BeamTraining nearlyEqualPairs(int power0, int power1) {
        BeamTraining x = new BeamTraining();
        x.setStation(0, 2, 0, power0);
        x.setStation(1, 2, 0, power1);
        for (int loss : new int[] {47, 47, 46, 47, 49, 64, 54}) x.addPath(32, 32, loss);
        x.addPath(0, 0, 17);
        return x;
    }

    private static void bestPairFromStation0() {
        BeamTraining weak = nearlyEqualPairs(0, 8);
        due("quality(0, 0, 0) with power 0", weak.quality(0, 0, 0), 55);
        due("quality(0, 1, 1) with power 0", weak.quality(0, 1, 1), 56);
        due("quality(1, 0, 0) with power 8", weak.quality(1, 0, 0), 63);
        due("quality(1, 1, 1) with power 8", weak.quality(1, 1, 1), 63);
        due("bestPair() with power 0 of station 0", weak.bestPair(), 16 + 1);
        due("bestPair() with power 8 of station 0", nearlyEqualPairs(8, 0).bestPair(), 0);
    }

    private static void shortfallFromStation0() {
        for (int power = 0; power <= 8; power += 8) {
            BeamTraining x = nearlyEqualPairs(power, 8 - power);
            x.select(0, 0);
            x.select(1, 0);
            due("shortfall() of the pair (0, 0)", x.shortfall(), power == 0 ? 56 - 55 : 63 - 63);
        }
    }

    private static void numbersOfPairs() {
        for (int[] sectors : new int[][] {{16, 16}, {2, 16}, {16, 2}}) {
            for (int i = 0; i < sectors[0]; i++) {
                for (int j = 0; j < sectors[1]; j++) {
                    BeamTraining x = new BeamTraining();
                    x.setStation(0, sectors[0], 0, 40);
                    x.setStation(1, sectors[1], 0, 40);
                    x.addPath(64 * i / sectors[0], 64 * j / sectors[1], 300);
                    x.setBlock(0, 200);
                    due("bestPair()", x.bestPair(), 16 * i + j);
                }
            }
        }
    }

    private static void noBestPair() {
        BeamTraining x = new BeamTraining();
        due("bestPair() at first", x.bestPair(), NONE);
        x.addPath(0, 0, 0);
        x.removePath(0);
        due("bestPair() without paths", x.bestPair(), NONE);
    }

    private static void negativeShortfalls() {
        BeamTraining x = onePath();
        x.select(0, 10);
        x.select(1, 10);
        due("shortfall() of the best narrow beams", x.shortfall(), -24);
        x.select(0, 0);
        due("shortfall() of one of them", x.shortfall(), -12);
        x.select(1, 0);
        due("shortfall() of the best pair", x.shortfall(), 0);
        x.select(1, 11);
        due("shortfall() of a narrow beam beside", x.shortfall(), -9);
        x.select(0, 4);
        x.select(1, 4);
        due("the greatest shortfall() of one path", x.shortfall(), 72 + 80);
        BeamTraining last = new BeamTraining();
        last.setStation(0, 16, 0, 90);
        last.setStation(1, 16, 0, 10);
        last.addPath(60, 52, 40);
        last.addPath(30, 20, 45);
        last.select(0, 15);
        last.select(1, 12);
        due("shortfall() beside the pair (15, 13): 36 less 20", last.shortfall(), 16);
        last.removePath(0);
        last.addPath(13, 49, 40);
        last.select(0, 4);
        due("shortfall() beside the pair (3, 12): 35 less 27", last.shortfall(), 8);
    }

    private static void noShortfall() {
        BeamTraining x = new BeamTraining();
        due("shortfall() at first", x.shortfall(), NONE);
        x.addPath(0, 0, 0);
        due("shortfall() without beams", x.shortfall(), NONE);
        x.select(0, 0);
        due("shortfall() without a beam of station 1", x.shortfall(), NONE);
        x.undo();
        x.select(1, 0);
        due("shortfall() without a beam of station 0", x.shortfall(), NONE);
        x.select(0, 0);
        due("shortfall() with both", x.shortfall(), 0);
        x.removePath(0);
        due("shortfall() without paths", x.shortfall(), NONE);
    }

    private static float wideShare(int sectors0, int sectors1, int i, int j) {
        float sum = 0.0f;
        for (int a = 0; a < sectors0; a++) {
            for (int b = 0; b < sectors1; b++) sum += sharePower(sectors0, sectors1, a, b);
        }
        return sharePower(sectors0, sectors1, i, j) / sum;
    }

    private static float sharePower(int sectors0, int sectors1, int i, int j) {
        return power(41 + wide(angle(64 * i / sectors0, 5)) + wide(angle(64 * j / sectors1, 61)) - 77);
    }

    private static BeamTraining shared(int sectors0, int sectors1) {
        BeamTraining x = new BeamTraining();
        x.setStation(0, sectors0, 0, 41);
        x.setStation(1, sectors1, 0, 46);
        x.addPath(5, 61, 77);
        return x;
    }

    private static void orderOfTheSum() {
        for (int[] sectors : new int[][] {{2, 2}, {2, 16}, {16, 2}, {7, 5}, {16, 16}}) {
            BeamTraining x = shared(sectors[0], sectors[1]);
            for (int i = 0; i < sectors[0]; i++) {
                int last = sectors[1] - 1;
                int want = Float.floatToIntBits(wideShare(sectors[0], sectors[1], i, last));
                due("shareBits(" + i + ", " + last + ")", x.shareBits(i, last), want);
            }
        }
    }

    private static void shareInThousandths() {
        BeamTraining x = shared(16, 16);
        for (int i = 0; i < 16; i++) {
            for (int j = 0; j < 16; j++) due("share", x.share(i, j), (int) (wideShare(16, 16, i, j) * 1000.0f));
        }
        due("a share below 0.001", x.share(8, 8), 0);
        BeamTraining quarter = new BeamTraining();
        quarter.setStation(0, 2, 16, 40);
        quarter.setStation(1, 2, 16, 40);
        quarter.addPath(0, 0, 300);
        due("a share of exactly a quarter", quarter.share(1, 1), 250);
        BeamTraining third = new BeamTraining();
        third.setStation(0, 2, 16, 40);
        third.setStation(1, 3, 32, 40);
        third.addPath(0, 0, 0);
        float sum = 0.0f;
        for (int n = 0; n < 2; n++) for (int j = 0; j < 3; j++) sum += power(40 - 40 + wide(angle(32 + 64 * j / 3, 0)));
        float part = power(40 - 40 + wide(angle(32 + 42, 0)));
        due("a share that is cut off", third.share(0, 2), (int) (part / sum * 1000.0f));
    }

    private static BeamTraining twoPaths(int[] one, int[] other) {
        BeamTraining x = stations(2, 2, 40);
        x.removePath(0);
        x.addPath(one[0], one[1], one[2]);
        x.addPath(other[0], other[1], other[2]);
        return x;
    }

    /** Where a factor that differs by its last bit, or a product that is no float, would tell another number. */
    private static void nearlyWholeThousandths() {
        BeamTraining x = twoPaths(new int[] {25, 43, 77}, new int[] {52, 39, 77});
        due("shareBits, just below a quarter", x.shareBits(0, 1), Float.floatToIntBits(0.25f) - 1);
        due("share just below a quarter", x.share(0, 1), 249);
        x = twoPaths(new int[] {46, 63, 18}, new int[] {29, 0, 3});
        due("share just below 0.96", x.share(1, 0), 959);
        x = twoPaths(new int[] {41, 5, 48}, new int[] {30, 17, 71});
        due("a share whose product is rounded up to 241", x.share(1, 1), 241);
        x = twoPaths(new int[] {23, 60, 81}, new int[] {57, 32, 2});
        due("a share whose product is rounded up to 815", x.share(0, 1), 815);
    }

    private static void noShareWithoutPaths() {
        BeamTraining x = new BeamTraining();
        due("share at first", x.share(0, 7), NONE);
        x.addPath(0, 0, 300);
        due("share with a path is an error", x.share(0, 7) < 0 ? 1 : 0, 0);
        x.removePath(0);
        due("share without paths", x.share(0, 7), NONE);
    }

    private static void noBitsWithoutPaths() {
        BeamTraining x = new BeamTraining();
        due("shareBits at first", x.shareBits(7, 0), NONE);
        x.addPath(0, 0, 300);
        due("shareBits with a path is an error", x.shareBits(7, 0) < 0 ? 1 : 0, 0);
        x.removePath(0);
        due("shareBits without paths", x.shareBits(7, 0), NONE);
    }

    private interface OfSectors {
        int on(BeamTraining x, int sector0, int sector1);
    }

    private static final int[][] SECTORS = {{2, 16}, {16, 2}, {8, 8}};

    private static void eachSector0(String name, OfSectors call) {
        for (int[] sectors : SECTORS) {
            int last = sectors[1] - 1;
            each(name + " of sector0", sectors[0], () -> shared(sectors[0], sectors[1]), (x, v) -> call.on(x, v, last));
        }
    }

    private static void eachSector1(String name, OfSectors call) {
        for (int[] sectors : SECTORS) {
            int last = sectors[0] - 1;
            each(name + " of sector1", sectors[1], () -> shared(sectors[0], sectors[1]), (x, v) -> call.on(x, last, v));
        }
    }

    private static void noSuchSector(String name, OfSectors call) {
        for (int[] sectors : SECTORS) {
            Supplier<BeamTraining> setup = () -> shared(sectors[0], sectors[1]);
            noSuch(name + " of sector0", sectors[0], setup, (x, v) -> call.on(x, v, 0));
            noSuch(name + " of sector1", sectors[1], setup, (x, v) -> call.on(x, 0, v));
        }
        noSuch(name + " of sector0 without paths", 8, BeamTraining::new, (x, v) -> call.on(x, v, 7));
        noSuch(name + " of sector1 without paths", 8, BeamTraining::new, (x, v) -> call.on(x, 7, v));
    }

    private static void bitsOfShares() {
        BeamTraining x = shared(16, 16);
        for (int i = 0; i < 16; i++) {
            for (int j = 0; j < 16; j++) due("shareBits", x.shareBits(i, j), Float.floatToIntBits(wideShare(16, 16, i, j)));
        }
        BeamTraining quarter = new BeamTraining();
        quarter.setStation(0, 2, 16, 40);
        quarter.setStation(1, 2, 16, 40);
        quarter.addPath(0, 0, 300);
        due("shareBits of a power of two", quarter.shareBits(1, 0), Float.floatToIntBits(0.25f));
        BeamTraining far = new BeamTraining();
        for (int path = 0; path < 7; path++) far.addPath(0, 0, 0);
        float sum = 0.0f;
        for (int pair = 0; pair < 64; pair++) sum += sevenfold(wide(angle(pair / 8 * 8, 0)) + wide(angle(pair % 8 * 8, 0)));
        due("shareBits of the least share", far.shareBits(4, 4), Float.floatToIntBits(sevenfold(-80) / sum));
        due("shareBits of the greatest share", far.shareBits(0, 0), Float.floatToIntBits(sevenfold(72) / sum));
    }

    private static float sevenfold(int gains) {
        float sum = 0.0f;
        for (int path = 0; path < 7; path++) sum += power(40 + gains);
        return sum;
    }

    private static void outageMany() {
        for (int many = 1; many <= 100; many++) due("outage(" + many + ")", linked().outage(many), NONE);
        refused("outage(0)", BAD_VALUE, x -> x.outage(0));
        refused("outage(101)", BAD_VALUE, x -> x.outage(101));
    }

    private static void outageOutOfRange() {
        outside("outage", 1, 100, BAD_VALUE, BeamTraining::outage);
        refused("outage(0) of a new object", BAD_VALUE, BeamTraining::new, x -> x.outage(0));
        refused("outage(101) of a new object", BAD_VALUE, BeamTraining::new, x -> x.outage(101));
    }

    /** The path drifts slowly away from beams that are one step wide: the link goes down after some intervals. */
    private static BeamTraining drifting(int patience) {
        BeamTraining x = onePathUp();
        x.setRecovery(patience, false);
        x.setDrift(0, 1, 0);
        return x;
    }

    private static void intervalsUntilDown() {
        due("outage(100) of a link that is down", new BeamTraining().outage(100), 0);
        due("outage(1) of a link that is down", new BeamTraining().outage(1), 0);
        for (int patience = 1; patience <= 9; patience++) {
            int lasts = 8 + patience;
            due("outage(100)", drifting(patience).outage(100), lasts);
            due("outage of exactly that many", drifting(patience).outage(lasts), lasts);
            due("outage of one less", drifting(patience).outage(lasts - 1), NONE);
            BeamTraining x = drifting(patience);
            due("pass of one less", x.pass(lasts - 1), 1);
            due("outage(1) then", x.outage(1), 1);
            due("pass(1) then", x.pass(1), 0);
            due("outage(1) of a link that went down", x.outage(1), 0);
        }
    }

    private static void upAfterEachInterval() {
        due("outage(1)", linked().outage(1), NONE);
        due("outage(100)", linked().outage(100), NONE);
        BeamTraining x = drifting(1);
        x.setRecovery(1, true);
        due("a sweep of the same interval brings it up", x.outage(100), NONE);
        for (int many = 1; many <= 8; many++) due("outage(" + many + ")", drifting(1).outage(many), NONE);
    }

    private static void outageOnACopy() {
        asksOnly("outage(100)", x -> x.outage(100));
        asksOnly("outage(1)", x -> x.outage(1));
        BeamTraining x = drifting(1);
        long before = x.digest();
        x.outage(100);
        due("digest()", x.digest(), before);
        x.undo();
        due("undo() is that of setDrift", x.pathDirection(0, 0), 0);
        due("outage(100) without the drift", x.outage(100), NONE);
    }

    // ---- promises 39 to 46

    private static BeamTraining withBackups(int many) {
        BeamTraining x = new BeamTraining();
        for (int p = 0; p < many; p++) x.addPath(16 * p, 16 * p, 40 + p);
        x.survey(1);
        return x;
    }

    private static void numberOfBackups() {
        for (int many = 0; many <= 4; many++) {
            due("backupCount()", withBackups(many).backupCount(), Math.min(3, many));
        }
        due("backupCount() at first", new BeamTraining().backupCount(), 0);
        BeamTraining x = withBackups(3);
        x.setStation(0, 8, 0, 40);
        due("backupCount() after setStation", x.backupCount(), 0);
    }

    private static void eachBackupBeam() {
        for (int many = 0; many <= 3; many++) {
            int backups = many;
            each("backupBeam at station 0", many, () -> withBackups(backups), (x, v) -> x.backupBeam(v, 0));
            each("backupBeam at station 1", many, () -> withBackups(backups), (x, v) -> x.backupBeam(v, 1));
        }
        for (int backup = 0; backup < 3; backup++) {
            due("backupBeam at station 0", withBackups(3).backupBeam(backup, 0), 2 * backup);
            due("backupBeam at station 1", withBackups(3).backupBeam(backup, 1), 2 * backup);
        }
    }

    private static void noBackupOrStation() {
        for (int many = 0; many <= 3; many++) {
            int backups = many;
            noSuch("backupBeam at station 0", many, () -> withBackups(backups), (x, v) -> x.backupBeam(v, 0));
            noSuch("backupBeam at station 1", many, () -> withBackups(backups), (x, v) -> x.backupBeam(v, 1));
        }
        noSuchStation("backupBeam", (x, v) -> x.backupBeam(0, v));
    }

    private static void eachBackupQuality() {
        for (int many = 0; many <= 3; many++) {
            int backups = many;
            each("backupQuality", many, () -> withBackups(backups), BeamTraining::backupQuality);
            for (int b = 0; b < many; b++) due("backupQuality(" + b + ")", withBackups(many).backupQuality(b), 72 - b);
        }
    }

    private static void qualityOfTheSurvey() {
        BeamTraining x = withBackups(3);
        for (int path = 0; path < 3; path++) x.setBlock(path, 200);
        x.setThreshold(200);
        for (int b = 0; b < 3; b++) due("backupQuality(" + b + ")", x.backupQuality(b), 72 - b);
        BeamTraining fades = withBackups(1);
        fades.setFade(60, seed(v -> fade(60, v, 1) == 30));
        fades.survey(1);
        due("a measured quality with its fade", fades.backupQuality(0), 72 - 30);
        fades.setFade(0, 1);
        due("it stays when the fading ends", fades.backupQuality(0), 72 - 30);
        BeamTraining least = onePath();
        least.setThreshold(72);
        due("survey(1)", least.survey(1), 1);
        due("backupQuality(0) at the threshold", least.backupQuality(0), 72);
    }

    private static void noBackup() {
        for (int many = 0; many <= 3; many++) {
            int backups = many;
            noSuch("backupQuality", many, () -> withBackups(backups), BeamTraining::backupQuality);
        }
        BeamTraining x = withBackups(3);
        x.setThreshold(73);
        x.survey(1);
        due("backupQuality(0) after a survey without any", x.backupQuality(0), BAD_INDEX);
    }

    private static BeamTraining withEvents(int many) {
        BeamTraining x = new BeamTraining();
        for (int n = 0; n < many; n++) {
            x.sweep(0);
            x.pass(1);
        }
        return x;
    }

    private static void numberOfEvents() {
        due("eventCount() at first", new BeamTraining().eventCount(), 0);
        for (int many = 0; many <= 45; many++) due("eventCount()", withEvents(many).eventCount(), Math.min(20, many));
        BeamTraining x = withEvents(20);
        x.sweep(0);
        x.undo();
        x.undo();
        due("eventCount() after undo()", x.eventCount(), 20);
        x.undo();
        due("eventCount() after another undo()", x.eventCount(), 19);
    }

    private static void events(String name, Setter call) {
        for (int many : new int[] {0, 1, 19, 20, 21, 41}) {
            each(name + " after " + many, Math.min(20, many), () -> withEvents(many), call);
            noSuch(name + " after " + many, Math.min(20, many), () -> withEvents(many), call);
        }
    }

    /** One event in each interval from 0: every third one is a sweep that fails, the others have both initiators. */
    private static BeamTraining withMixedEvents(int many) {
        BeamTraining x = onePath();
        for (int n = 0; n < many; n++) {
            x.setThreshold(n % 3 == 2 ? 200 : 0);
            x.sweep(n % 2);
            x.setThreshold(0);
            x.pass(1);
        }
        return x;
    }

    private static void kindsFromTheLatest() {
        for (int many : new int[] {1, 19, 20, 21, 33}) {
            BeamTraining x = withMixedEvents(many);
            for (int event = 0; event < Math.min(20, many); event++) {
                due("eventKind(" + event + ")", x.eventKind(event), (many - 1 - event) % 3 == 2 ? 5 : 1);
            }
        }
    }

    private static void valuesFromTheLatest() {
        for (int many : new int[] {1, 19, 20, 21, 33}) {
            BeamTraining x = withMixedEvents(many);
            for (int event = 0; event < Math.min(20, many); event++) {
                int n = many - 1 - event;
                due("eventValue(" + event + ")", x.eventValue(event), n % 3 == 2 ? 1 : n % 2);
            }
        }
    }

    private static void intervalsFromTheLatest() {
        for (int many : new int[] {1, 19, 20, 21, 33}) {
            BeamTraining x = withMixedEvents(many);
            for (int event = 0; event < Math.min(20, many); event++) {
                due("eventInterval(" + event + ")", x.eventInterval(event), many - 1 - event);
            }
        }
    }

    private static void fiveKinds() {
        BeamTraining x = new BeamTraining();
        x.sweep(0);
        event(x, 0, 5, 1, 0);
        x.addPath(0, 0, 40);
        x.addPath(32, 32, 50);
        x.sweep(1);
        event(x, 0, 1, 1, 0);
        x.survey(8);
        x.select(0, 9);
        x.select(1, 9);
        x.setTracking(true, 0);
        x.pass(1);
        event(x, 0, 4, 1, 1);
        event(x, 1, 4, 0, 1);
        x.setTracking(false, 0);
        x.setRecovery(1, false);
        x.setBlock(0, 200);
        x.pass(1);
        event(x, 0, 3, 0, 2);
        x.setBlock(1, 200);
        x.pass(1);
        event(x, 0, 2, 0, 3);
        due("eventCount()", x.eventCount(), 6);
    }

    private static long folded(List<Integer> numbers) {
        long h = 17;
        for (int v : numbers) h = 31 * h + v;
        return h;
    }

    private static void digestOfNothing() {
        List<Integer> all = new ArrayList<>(List.of(0, 0, 0, 0, 0, 1));
        for (int station = 0; station < 2; station++) {
            all.addAll(List.of(8, 0, 40, NONE));
            for (int k = 0; k < 8; k++) all.add(NONE);
        }
        all.addAll(List.of(0, 0, 0, 4, 2, 0));
        due("digest() of a new object", new BeamTraining().digest(), folded(all));
        for (int station = 0; station < 2; station++) {
            BeamTraining x = new BeamTraining();
            x.select(station, 0);
            all.set(6 + 12 * station + 3, 0);
            due("digest() with the first beam", x.digest(), folded(all));
            all.set(6 + 12 * station + 3, NONE);
        }
    }

    /** The digest of an object by what it answers, and by what can't be asked. */
    private static long digestOf(BeamTraining x, int seed, int[][] stations, int[][] losses, int[] settings) {
        List<Integer> all = new ArrayList<>(List.of(x.isUp(), x.failures(), x.interval(), x.frames(), x.time(), seed));
        for (int s = 0; s < 2; s++) {
            for (int v : stations[s]) all.add(v);
            all.add(x.beam(s));
            for (int k = 0; k < stations[1 - s][0]; k++) all.add(x.heard(s, k));
        }
        for (int p = 0; p < x.pathCount(); p++) {
            all.add(x.pathDirection(p, 0));
            all.add(x.pathDirection(p, 1));
            for (int v : losses[p]) all.add(v);
        }
        for (int b = 0; b < x.backupCount(); b++) {
            all.addAll(List.of(x.backupBeam(b, 0), x.backupBeam(b, 1), x.backupQuality(b)));
        }
        for (int e = x.eventCount() - 1; e >= 0; e--) {
            all.addAll(List.of(x.eventKind(e), x.eventValue(e), x.eventInterval(e)));
        }
        for (int v : settings) all.add(v);
        return folded(all);
    }

    private static void digestOfAllThereCanBe() {
        digestOfSectors(16, 16);
        digestOfSectors(2, 16);
        digestOfSectors(16, 2);
    }

    private static void digestOfSectors(int sectors0, int sectors1) {
        int[][] stations = {{sectors0, 63, 100}, {sectors1, 1, 99}};
        int[][] losses = new int[8][];
        BeamTraining x = new BeamTraining();
        for (int s = 0; s < 2; s++) x.setStation(s, stations[s][0], stations[s][1], stations[s][2]);
        for (int p = 0; p < 8; p++) {
            losses[p] = new int[] {10 * p, 20 * p, p % 4, -(p % 4)};
            x.addPath(8 * p, 63 - 8 * p, losses[p][0]);
            x.setBlock(p, losses[p][1]);
            x.setDrift(p, losses[p][2], losses[p][3]);
        }
        x.setRecovery(9, true);
        x.setTracking(true, 0);
        x.setThreshold(-200);
        x.setFade(60, -5);
        due("survey(1)", x.survey(1), sectors0 == sectors1 ? 3 : 2);
        x.sweep(1);
        x.pass(50);
        x.setThreshold(200);
        x.pass(3);
        int seed = -5;
        for (int frame = 0; frame < x.frames(); frame++) seed = seed * 1664525 + 1013904223;
        due("eventCount()", x.eventCount(), 20);
        due("failures()", x.failures(), 3);
        int[] settings = {200, 60, 1, 0, 9, 1};
        due("digest()", x.digest(), digestOf(x, seed, stations, losses, settings));
        for (int n = 0; n < 300; n++) x.sweep(n % 2);
        seed = -5;
        for (int frame = 0; frame < x.frames(); frame++) seed = seed * 1664525 + 1013904223;
        due("digest() when the tables are empty", x.digest(), digestOf(x, seed, stations, losses, settings));
    }

    private static void oldestEventFirst() {
        for (int many : new int[] {0, 1, 2, 19, 20, 21, 41}) {
            BeamTraining x = withEvents(many);
            int seed = 1;
            for (int frame = 0; frame < 8 * many; frame++) seed = seed * 1664525 + 1013904223;
            int[][] stations = {{8, 0, 40}, {8, 0, 40}};
            due("digest() of " + many + " events", x.digest(), digestOf(x, seed, stations, new int[0][], new int[] {0, 0, 0, 4, 2, 0}));
        }
    }

    private static void noDigestTwice() {
        asksOnly("digest()", BeamTraining::digest);
        BeamTraining x = linked();
        due("digest() again", x.digest(), x.digest());
        due("digest() of the same calls", x.digest(), linked().digest());
        x.type(97);
        due("digest() without the text", x.digest(), linked().digest());
        x.clearText();
        due("digest() without the text", x.digest(), linked().digest());
    }

    private static void training() {
        section("Promise 16: sweep");
        test("Undoable.", () -> undone("sweep", x -> x.sweep(0)));
        test("`initiator`: 0 or 1", () -> eachStation("sweep", BeamTraining::sweep));
        test("Returns its result, 0 to 4", BoundaryCallsTest::sweepResults);
        test("BAD_INDEX if there is no such station", () -> noSuchStation("sweep", BeamTraining::sweep));

        section("Promise 17: refine");
        test("Undoable.", () -> undone("refine", x -> x.refine(1)));
        test("`station`: 0 or 1", () -> eachStation("refine", BeamTraining::refine));
        test("Returns its present beam after that", BoundaryCallsTest::beamAfterRefining);
        test("BAD_INDEX if there is no such station", () -> noSuchStation("refine", BeamTraining::refine));
        test("BAD_STATE if the link is down", BoundaryCallsTest::refineOfALinkThatIsDown);

        section("Promise 18: survey");
        test("Undoable.", () -> undone("survey", x -> x.survey(32)));
        test("`separation`: 1 to 32", BoundaryCallsTest::surveySeparation);
        test("Returns the number of backups", BoundaryCallsTest::numberOfBackupsFound);
        test("BAD_VALUE if separation is out of range", BoundaryCallsTest::surveyOutOfRange);

        section("Promise 19: select");
        test("The link and all else stay.", BoundaryCallsTest::selectLeavesAllElse);
        test("Undoable.", () -> undone("select", x -> x.select(0, 47)));
        test("`station`: 0 or 1", () -> eachStation("select", (x, v) -> x.select(v, 47)));
        test("`beam`: a wide or narrow beam of the station", BoundaryCallsTest::selectBeams);
        test("Returns its previous present beam; NONE if it had none", BoundaryCallsTest::previousBeam);
        test("BAD_INDEX if there is no such station", () -> noSuchStation("select", (x, v) -> x.select(v, 0)));
        test("BAD_VALUE if it has no such beam, or it is OMNI", BoundaryCallsTest::selectOfNoBeam);

        section("Promise 20: pass");
        test("Undoable.", () -> undone("pass", x -> x.pass(50)));
        test("`many`: how many, 1 to 50", BoundaryCallsTest::passMany);
        test("Returns 1 if the link is up after that, else 0", BoundaryCallsTest::upOrDownAfterPassing);
        test("BAD_VALUE if many is out of range", BoundaryCallsTest::passOutOfRange);
    }

    private static void state() {
        section("Promise 22: isUp");
        test("Returns 1 if it is, else 0.", BoundaryCallsTest::upOrNot);

        section("Promise 23: beam");
        test("`station`: 0 or 1", () -> eachStation("beam", BeamTraining::beam));
        test("Returns the beam; NONE if it has none", BoundaryCallsTest::noBeam);
        test("BAD_INDEX if there is no such station", () -> noSuchStation("beam", BeamTraining::beam));

        section("Promise 24: direction");
        test("`station`: 0 or 1", () -> eachStation("direction", (x, v) -> x.direction(v, 47)));
        test("`beam`: a wide or narrow beam of the station", BoundaryCallsTest::directionsOfBeams);
        test("BAD_INDEX if there is no such station", () -> noSuchStation("direction", (x, v) -> x.direction(v, 0)));
        test("BAD_VALUE if it has no such beam, or it is OMNI", BoundaryCallsTest::directionOfNoBeam);

        section("Promise 25: gain");
        test("`station`: 0 or 1", () -> eachStation("gain", (x, v) -> x.gain(v, 47, 63)));
        test("`beam`: a beam of the station, or OMNI", BoundaryCallsTest::gainBeams);
        test("`toward`: a direction", BoundaryCallsTest::gainToward);
        test("BAD_INDEX if there is no such station", () -> noSuchStation("gain", (x, v) -> x.gain(v, 0, 0)));
        test("BAD_VALUE if it has no such beam, or toward is out of range", BoundaryCallsTest::gainOutOfRange);

        section("Promise 26: heard");
        test("`station`: 0 or 1", () -> eachStation("heard", (x, v) -> x.heard(v, 7)));
        test("`sector`: a sector of the other station", BoundaryCallsTest::heardSectors);
        test("Returns the entry; NONE if it is NONE", BoundaryCallsTest::noEntry);
        test("BAD_INDEX if there is no such station or sector", BoundaryCallsTest::noStationOrSector);

        section("Promise 27: failures");
        test("Returns the number of failures.", BoundaryCallsTest::numberOfFailures);
        section("Promise 28: interval");
        test("Returns the interval number.", BoundaryCallsTest::intervalNumber);
        section("Promise 29: frames");
        test("Returns the number of frames that have been sent.", BoundaryCallsTest::framesSent);
        section("Promise 30: time");
        test("Returns the time that all these frames took.", BoundaryCallsTest::timeOfFrames);
        section("Promise 31: pathCount");
        test("Returns the number of paths.", BoundaryCallsTest::numberOfPaths);
        section("Promise 32: pathDirection");
        test("`path`: number of the path", BoundaryCallsTest::directionsOfPaths);
        test("`station`: 0 or 1", () -> eachStation("pathDirection", (x, v) -> x.pathDirection(2, v)));
        test("BAD_INDEX if there is no such path or station", BoundaryCallsTest::noPathOrStation);
    }

    private static void qualities() {
        section("Promise 33: quality");
        test("No frame is sent.", BoundaryCallsTest::noFrameIsSent);
        test("`from`: the station that transmits", () -> eachStation("quality", (x, v) -> x.quality(v, 47, 47)));
        test("`beam0`: a beam of station 0, or OMNI", BoundaryCallsTest::qualityBeams0);
        test("`beam1`: a beam of station 1, or OMNI", BoundaryCallsTest::qualityBeams1);
        test("Returns the quality; NONE if there are no paths", BoundaryCallsTest::noQualityWithoutPaths);
        test("BAD_INDEX if there is no such station", () -> noSuchStation("quality", (x, v) -> x.quality(v, -1, -1)));
        test("BAD_VALUE if a station has no such beam", BoundaryCallsTest::qualityOfNoBeam);

        section("Promise 34: bestPair");
        test("with which the quality from station 0 to station 1 is greatest", BoundaryCallsTest::bestPairFromStation0);
        test("of several the one with the lowest beam of station 0, and then the lowest beam of station 1",
            BoundaryCallsTest::lowestOfBestPairs);
        test("Returns 16 * (beam of station 0) + (beam of station 1)", BoundaryCallsTest::numbersOfPairs);
        test("NONE if there are no paths", BoundaryCallsTest::noBestPair);

        section("Promise 35: shortfall");
        test("its quality from station 0 to station 1 minus that of the present beams",
            BoundaryCallsTest::shortfallFromStation0);
        test("It can be negative.", BoundaryCallsTest::negativeShortfalls);
        test("Returns the difference; NONE if there are no paths, or a station has no present beam.", BoundaryCallsTest::noShortfall);

        section("Promise 36: share");
        test("(added in ascending order of the beams of station 0, for each of them of station 1, beginning with 0.0f)",
            BoundaryCallsTest::orderOfTheSum);
        test("`sector0`: a sector of station 0", () -> eachSector0("share", BeamTraining::share));
        test("`sector1`: a sector of station 1", () -> eachSector1("share", BeamTraining::share));
        test("Returns the share times 1000.0f, cast to int", BoundaryCallsTest::shareInThousandths);
        test("times 1000.0f, cast to int", BoundaryCallsTest::nearlyWholeThousandths);
        test("NONE if there are no paths", BoundaryCallsTest::noShareWithoutPaths);
        test("BAD_INDEX if there is no such sector", () -> noSuchSector("share", BeamTraining::share));

        section("Promise 37: shareBits");
        test("`sector0`: a sector of station 0", () -> eachSector0("shareBits", BeamTraining::shareBits));
        test("`sector1`: a sector of station 1", () -> eachSector1("shareBits", BeamTraining::shareBits));
        test("Returns Float.floatToIntBits of the share", BoundaryCallsTest::bitsOfShares);
        test("NONE if there are no paths", BoundaryCallsTest::noBitsWithoutPaths);
        test("BAD_INDEX if there is no such sector", () -> noSuchSector("shareBits", BeamTraining::shareBits));

        section("Promise 38: outage");
        test("passes intervals on a copy of the whole state", BoundaryCallsTest::outageOnACopy);
        test("`many`: at most how many, 1 to 100", BoundaryCallsTest::outageMany);
        test("Returns after how many intervals the link is down for the first time (0 if it is down now)",
            BoundaryCallsTest::intervalsUntilDown);
        test("NONE if it is up after each of them", BoundaryCallsTest::upAfterEachInterval);
        test("BAD_VALUE if many is out of range", BoundaryCallsTest::outageOutOfRange);
    }

    private static void backupsAndEvents() {
        section("Promise 39: backupCount");
        test("Returns the number of backups.", BoundaryCallsTest::numberOfBackups);
        section("Promise 40: backupBeam");
        test("`backup`: number of the backup", BoundaryCallsTest::eachBackupBeam);
        test("`station`: 0 or 1", () -> eachStation("backupBeam", (x, v) -> x.backupBeam(1, v)));
        test("BAD_INDEX if there is no such backup or station", BoundaryCallsTest::noBackupOrStation);
        section("Promise 41: backupQuality");
        test("`backup`: number of the backup", BoundaryCallsTest::eachBackupQuality);
        test("as it was in the survey", BoundaryCallsTest::qualityOfTheSurvey);
        test("BAD_INDEX if there is no such backup", BoundaryCallsTest::noBackup);
        section("Promise 42: eventCount");
        test("Returns the number of events that are kept.", BoundaryCallsTest::numberOfEvents);

        section("Promise 43: eventKind");
        test("`event`: 0 for the latest event, 1 for the one before, and so on", BoundaryCallsTest::kindsFromTheLatest);
        test("Returns its kind, 1 to 5", BoundaryCallsTest::fiveKinds);
        test("BAD_INDEX if there is no such event", () -> events("eventKind", BeamTraining::eventKind));
        section("Promise 44: eventValue");
        test("`event`: 0 for the latest event, 1 for the one before, and so on", BoundaryCallsTest::valuesFromTheLatest);
        test("BAD_INDEX if there is no such event", () -> events("eventValue", BeamTraining::eventValue));
        section("Promise 45: eventInterval");
        test("`event`: 0 for the latest event, 1 for the one before, and so on", BoundaryCallsTest::intervalsFromTheLatest);
        test("BAD_INDEX if there is no such event", () -> events("eventInterval", BeamTraining::eventInterval));

        section("Promise 46: digest");
        test("its present beam (NONE if it has none), and the entries of its table (NONE where they are NONE)",
            BoundaryCallsTest::digestOfNothing);
        test("(long arithmetic, with overflow)", BoundaryCallsTest::digestOfAllThereCanBe);
        test("for each event, the oldest one first", BoundaryCallsTest::oldestEventFirst);
        test("Returns a hash of the state.", BoundaryCallsTest::noDigestTwice);
    }

    public static void main(String[] args) {
        training();
        state();
        qualities();
        backupsAndEvents();
        end();
    }
}
