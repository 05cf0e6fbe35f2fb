import java.util.ArrayList;
import java.util.List;

/** Boundaries in the description: training and backups. */
public final class BoundaryTrainingTest extends Sentences {
    private static final int ALL_HEARD = -200;

    private static void tableIsEmpty(BeamTraining x, int station, int sectors) {
        for (int k = 0; k < sectors; k++) due("heard(" + station + ", " + k + ")", x.heard(station, k), NONE);
    }

    // ---- the state of training

    private static void noBeamAtFirst() {
        for (int station = 0; station < 2; station++) {
            BeamTraining x = new BeamTraining();
            due("beam at first", x.beam(station), NONE);
            due("select of the first beam", x.select(station, 0), NONE);
            due("beam", x.beam(station), 0);
            due("the other station has none", x.beam(1 - station), NONE);
        }
    }

    private static void oneEntryForEachSectorOfTheOther() {
        for (int[] sectors : new int[][] {{2, 16}, {16, 2}, {8, 7}}) {
            BeamTraining x = stations(sectors[0], sectors[1], 0);
            x.setThreshold(ALL_HEARD);
            x.sweep(0);
            for (int station = 0; station < 2; station++) {
                int many = sectors[1 - station];
                for (int k = 0; k < many; k++) {
                    due("heard(" + station + ", " + k + ")", x.heard(station, k), 40 + wide(angle(64 * k / many, 0)));
                }
                due("heard before the first sector", x.heard(station, -1), BAD_INDEX);
                due("heard behind the last sector", x.heard(station, many), BAD_INDEX);
            }
        }
    }

    private static void entriesAtFirst() {
        BeamTraining x = new BeamTraining();
        tableIsEmpty(x, 0, 8);
        tableIsEmpty(x, 1, 8);
    }

    private static void downAtFirst() {
        BeamTraining x = new BeamTraining();
        due("isUp() at first", x.isUp(), 0);
        due("refine(0) at first", x.refine(0), BAD_STATE);
        x.select(0, 0);
        x.select(1, 0);
        due("isUp() with two beams", x.isUp(), 0);
    }

    // ---- sweep

    private static void fromTheLastSector() {
        for (int sectors : new int[] {2, 3, 16}) {
            for (int initiator = 0; initiator < 2; initiator++) {
                BeamTraining x = stations(sectors, sectors, 0);
                x.setThreshold(ALL_HEARD);
                x.setFade(60, 99);
                x.sweep(initiator);
                for (int k = 0; k < sectors; k++) {
                    int quality = 40 + wide(angle(64 * k / sectors, 0));
                    due("sector " + k + " of I", x.heard(1 - initiator, k), quality - fade(60, 99, sectors - k));
                    due("sector " + k + " of R", x.heard(initiator, k), quality - fade(60, 99, 2 * sectors - k));
                }
            }
        }
    }

    /** A link whose tables have the entries 36 alone; then nobody hears anything, or only the sectors 4. */
    private static BeamTraining afterTurning(int block) {
        BeamTraining x = onePathUp();
        x.rotate(0, 32);
        x.rotate(1, 32);
        x.setBlock(0, block);
        return x;
    }

    private static void tableOfTheResponderIsMadeAnew() {
        for (int block : new int[] {36, 37}) {
            BeamTraining x = afterTurning(block);
            due("heard(1, 0) before", x.heard(1, 0), 36);
            due("sweep(0)", x.sweep(0), block == 36 ? 0 : 1);
            for (int k = 0; k < 8; k++) due("heard(1, " + k + ")", x.heard(1, k), k == 4 && block == 36 ? 0 : NONE);
        }
    }

    private static void tableOfTheInitiatorIsMadeAnew() {
        for (int block : new int[] {36, 37}) {
            BeamTraining x = afterTurning(block);
            x.setStation(0, 8, 32, 41);
            due("sweep(0)", x.sweep(0), block == 36 ? 0 : 2);
            for (int k = 0; k < 8; k++) due("heard(0, " + k + ")", x.heard(0, k), k == 4 && block == 36 ? 0 : NONE);
        }
        BeamTraining x = onePathUp();
        int seed = seed(v -> fade(60, v, 8) <= 36 && fade(60, v, 16) > 36);
        x.setFade(60, seed);
        due("heard(0, 0) before", x.heard(0, 0), 36);
        due("sweep(0)", x.sweep(0), 2);
        tableIsEmpty(x, 0, 8);
        due("heard(1, 0)", x.heard(1, 0), 36 - fade(60, seed, 8));
    }

    private static void entriesOfFramesThatAreHeard() {
        BeamTraining x = onePath();
        x.setThreshold(-28);
        due("sweep(0)", x.sweep(0), 0);
        int[] heard = {36, -28, NONE, NONE, NONE, NONE, NONE, -28};
        for (int k = 0; k < 8; k++) due("heard(1, " + k + ") at the threshold", x.heard(1, k), heard[k]);
        x.setThreshold(-27);
        due("sweep(0)", x.sweep(0), 0);
        for (int k = 1; k < 8; k++) due("an entry that is there no more", x.heard(1, k), NONE);
        due("heard(1, 0)", x.heard(1, 0), 36);
    }

    private static void highestOfSeveralBestSectors() {
        BeamTraining x = stations(2, 16, 0);
        x.setThreshold(ALL_HEARD);
        x.undo();
        x.undo();
        x.addPath(16, 2, 40);
        x.setThreshold(ALL_HEARD);
        for (int initiator = 0; initiator < 2; initiator++) {
            due("sweep", x.sweep(initiator), 0);
            due("of two sectors that are both 16 off", x.beam(0), 1);
            due("of the sectors 0 and 1 that are both 2 off", x.beam(1), 1);
        }
        x = new BeamTraining();
        x.addPath(60, 20, 40);
        due("sweep(0)", x.sweep(0), 0);
        due("of the sectors 7 and 0", x.beam(0), 7);
        due("of the sectors 2 and 3", x.beam(1), 3);
        x = onePath();
        x.addPath(60, 20, 41);
        due("sweep(0)", x.sweep(0), 0);
        due("a greater entry of a lower sector", x.beam(0), 0);
    }

    /** The first x with which the best sectors are heard in all phases of a sweep; that of this phase has just this fade. */
    private static int seedOfPhase(int phase, int fade) {
        return seed(v -> {
            boolean so = true;
            for (int p = 1; p <= 4; p++) {
                int other = fade(60, v, BEST_FRAMES[p - 1]);
                so &= p == phase ? other == fade : other <= 36;
            }
            return so;
        });
    }

    private static void nobodyHearsTheInitiator() {
        for (int fade = 36; fade <= 37; fade++) {
            int seed = seedOfPhase(1, fade);
            BeamTraining x = fading(60, seed);
            x.select(0, 3);
            x.select(1, 4);
            due("sweep(0) with the fade " + fade, x.sweep(0), fade == 36 ? 0 : 1);
            due("frames()", x.frames(), fade == 36 ? 36 : 26);
            due("heard(1, 0)", x.heard(1, 0), fade == 36 ? 0 : NONE);
            due("the table of I", x.heard(0, 0), fade == 36 ? 36 - fade(60, seed, 16) : 36);
            due("beam(0)", x.beam(0), fade == 36 ? 0 : 3);
            due("beam(1)", x.beam(1), fade == 36 ? 0 : 4);
        }
    }

    private static void nobodyHearsTheResponder() {
        for (int fade = 36; fade <= 37; fade++) {
            int seed = seedOfPhase(2, fade);
            BeamTraining x = fading(60, seed);
            x.select(0, 3);
            x.select(1, 4);
            due("sweep(0) with the fade " + fade, x.sweep(0), fade == 36 ? 0 : 2);
            due("frames()", x.frames(), fade == 36 ? 36 : 34);
            due("heard(1, 0)", x.heard(1, 0), 36 - fade(60, seed, 8));
            due("heard(0, 0)", x.heard(0, 0), fade == 36 ? 0 : NONE);
            due("beam(0)", x.beam(0), fade == 36 ? 0 : 3);
            due("beam(1)", x.beam(1), fade == 36 ? 0 : 4);
        }
    }

    private static void feedbackIsNotHeard() {
        for (int fade = 36; fade <= 37; fade++) {
            int seed = seedOfPhase(3, fade);
            BeamTraining x = fading(60, seed);
            x.select(0, 3);
            x.select(1, 4);
            due("sweep(0) with the fade " + fade, x.sweep(0), fade == 36 ? 0 : 3);
            due("frames()", x.frames(), fade == 36 ? 36 : 35);
            due("time()", x.time(), 274 + 256 + (fade == 36 ? 18 : 9));
            due("beam(0)", x.beam(0), 0);
            due("beam(1)", x.beam(1), fade == 36 ? 0 : 4);
        }
    }

    private static void acknowledgementIsNotHeard() {
        for (int fade = 36; fade <= 37; fade++) {
            int seed = seedOfPhase(4, fade);
            BeamTraining x = fading(60, seed);
            x.select(0, 3);
            x.select(1, 4);
            due("sweep(0) with the fade " + fade, x.sweep(0), fade == 36 ? 0 : 4);
            due("frames()", x.frames(), 36);
            due("beam(0)", x.beam(0), 0);
            due("beam(1)", x.beam(1), 0);
        }
    }

    private static void beamsAfterEachResult() {
        for (int result = 0; result <= 4; result++) {
            for (int initiator = 0; initiator < 2; initiator++) {
                BeamTraining x = onePath();
                x.setFade(60, seedOfResult(result));
                x.select(initiator, 47);
                due("sweep", x.sweep(initiator), result);
                due("the beam of I with the result " + result, x.beam(initiator), result == 0 || result > 2 ? 0 : 47);
            }
        }
    }

    private static void beamsOfTheResponder() {
        for (int result = 0; result <= 4; result++) {
            for (int initiator = 0; initiator < 2; initiator++) {
                BeamTraining x = onePath();
                x.setFade(60, seedOfResult(result));
                due("sweep", x.sweep(initiator), result);
                due("the beam of R with the result " + result, x.beam(1 - initiator), result == 0 || result > 3 ? 0 : NONE);
            }
        }
    }

    private static void upOnlyWithTheResult0() {
        for (int result = 0; result <= 4; result++) {
            BeamTraining x = fading(60, seedOfResult(result));
            due("sweep(0) of a link that is up", x.sweep(0), result);
            due("isUp()", x.isUp(), result == 0 ? 1 : 0);
            BeamTraining y = onePath();
            y.setFade(60, seedOfResult(result));
            due("sweep(1) of a link that is down", y.sweep(1), result);
            due("isUp()", y.isUp(), result == 0 ? 1 : 0);
        }
    }

    private static void failuresBecome0() {
        for (int result = 0; result <= 4; result++) {
            BeamTraining x = onePath();
            x.sweep(0);
            x.setRecovery(9, false);
            x.setThreshold(200);
            x.pass(8);
            due("failures() before", x.failures(), 8);
            x.setThreshold(0);
            x.setFade(60, seedOfResult(result));
            due("sweep(1)", x.sweep(1), result);
            due("failures()", x.failures(), 0);
        }
    }

    private static void backupsStay() {
        for (int result = 0; result <= 4; result++) {
            BeamTraining x = onePath();
            x.setThreshold(ALL_HEARD);
            due("survey(4)", x.survey(4), 3);
            x.setThreshold(0);
            x.setFade(60, seedOfResult(result));
            due("sweep(0)", x.sweep(0), result);
            due("backupCount()", x.backupCount(), 3);
            backup(x, 0, 0, 0, 72);
            backup(x, 1, 1, 1, -56);
            backup(x, 2, 7, 7, -56);
        }
    }

    // ---- refine

    private static void onlyWhileUp() {
        for (int station = 0; station < 2; station++) {
            int refined = station;
            refused("refine of a new object", BAD_STATE, BeamTraining::new, x -> x.refine(refined));
            refused("refine with two beams, but no link", BAD_STATE, () -> {
                BeamTraining x = linked();
                x.setBlock(0, 200);
                x.setBlock(1, 200);
                x.setBlock(2, 200);
                due("sweep(0)", x.sweep(0), 1);
                return x;
            }, x -> x.refine(refined));
            due("refine of a link", onePathUp().refine(station), 10);
        }
    }

    /** The beams with which a station sends test frames, in their order. */
    private static List<Integer> testedBeams(int sectors, int present) {
        int k = present < sectors ? present : (present - sectors) / 5;
        List<Integer> around = new ArrayList<>();
        for (int step = -1; step <= 1; step++) {
            int sector = Math.floorMod(k + step, sectors);
            if (!around.contains(sector)) around.add(sector);
        }
        List<Integer> beams = new ArrayList<>(List.of(present));
        for (int sector : around) for (int f = -2; f <= 2; f++) beams.add(sectors + 5 * sector + f + 2);
        return beams;
    }

    /** Refines both stations over one path at 0 with fades; the present beam of the other one has the gain 20 there. */
    private static void refines(int sectors, int present, int amplitude, int seed) {
        for (int station = 0; station < 2; station++) {
            BeamTraining x = station == 0 ? stations(sectors, 16, 40) : stations(16, sectors, 40);
            x.setThreshold(ALL_HEARD);
            x.sweep(0);
            x.select(station, present);
            x.select(1 - station, 1);
            x.setFade(amplitude, seed);
            x.setThreshold(0);
            List<Integer> beams = testedBeams(sectors, present);
            int best = NONE;
            int bestBeam = NONE;
            for (int n = 0; n < beams.size(); n++) {
                int measured = 20 + x.gain(station, beams.get(n), 0) - fade(amplitude, seed, n + 1);
                if (measured >= 0 && measured > best) {
                    best = measured;
                    bestBeam = beams.get(n);
                }
            }
            boolean told = 20 + x.gain(station, present, 0) - fade(amplitude, seed, beams.size() + 1) >= 0;
            int frames = x.frames();
            int time = x.time();
            int want = best != NONE && told ? bestBeam : present;
            due("refine of " + sectors + " sectors from " + present, x.refine(station), want);
            due("frames()", x.frames() - frames, beams.size() + (best == NONE ? 0 : 1));
            due("time()", x.time() - time, 4 * beams.size() + (best == NONE ? 0 : 9));
        }
    }

    private static void sectorsAroundGoRound() {
        for (int sectors : new int[] {2, 3, 4, 8, 16}) {
            for (int k : new int[] {0, 1, sectors - 2, sectors - 1}) refines(sectors, k, 0, 1);
        }
        due("the frames of two sectors", testedBeams(2, 0).size(), 11);
        due("the frames of three sectors", testedBeams(3, 0).size(), 16);
        BeamTraining x = onePathUp();
        x.select(0, 7);
        due("from the last sector to the first", x.refine(0), 10);
        x = new BeamTraining();
        x.addPath(56, 0, 40);
        x.sweep(0);
        x.select(0, 0);
        due("from the first sector to the last", x.refine(0), 8 + 35 + 2);
    }

    private static void orderOfTestFrames() {
        for (int seed = 0; seed < 60; seed++) {
            refines(2, seed % 12, 60, seed);
            refines(3, seed % 18, 60, seed);
            refines(16, seed % 6, 60, seed);
            refines(8, seed % 48, 5, seed);
        }
    }

    private static void sectorOfANarrowBeam() {
        for (int present = 8; present < 48; present++) refines(8, present, 0, 1);
        for (int sectors : new int[] {2, 16}) {
            refines(sectors, sectors, 0, 1);
            refines(sectors, 6 * sectors - 1, 0, 1);
        }
    }

    private static void firstOfSeveralBestFrames() {
        BeamTraining x = new BeamTraining();
        x.setStation(0, 16, 0, 40);
        x.addPath(2, 0, 40);
        x.sweep(0);
        due("beam(0)", x.beam(0), 1);
        due("2 of sector 0 before -2 of sector 1", x.refine(0), 16 + 4);
        x.select(0, 16 + 5);
        due("the present beam before the narrow beams", x.refine(0), 16 + 5);
        BeamTraining all = stations(16, 8, 40);
        all.sweep(1);
        all.setThreshold(ALL_HEARD);
        all.select(0, 8);
        due("of beams that all have the gain -40 the present one", all.refine(0), 8);
    }

    private static void noFeedbackIfNoneWasHeard() {
        for (int threshold = 84; threshold <= 85; threshold++) {
            BeamTraining x = onePathUp();
            x.setThreshold(threshold);
            due("refine(0) with the threshold " + threshold, x.refine(0), 0);
            due("frames()", x.frames(), 18 + (threshold == 84 ? 17 : 16));
            due("time()", x.time(), 274 + 64 + (threshold == 84 ? 9 : 0));
        }
    }

    private static void feedbackAtTheThreshold() {
        for (int fade = 10; fade <= 11; fade++) {
            int wanted = fade;
            int seed = seed(v -> fade(60, v, 17) == wanted && fade(60, v, 9) <= 10);
            BeamTraining x = onePathUp();
            x.setFade(60, seed);
            x.setThreshold(72 - 10);
            int best = 72 - fade(60, seed, 1);
            int bestBeam = best >= 62 ? 0 : NONE;
            for (int n = 1; n <= 15; n++) {
                int beam = testedBeams(8, 0).get(n);
                int measured = 36 + x.gain(0, beam, 0) - fade(60, seed, n + 1);
                if (measured >= 62 && measured > best) {
                    best = measured;
                    bestBeam = beam;
                }
            }
            due("a beam is heard", bestBeam > 0 ? 1 : 0, 1);
            due("refine(0) with the fade " + fade, x.refine(0), fade == 10 ? bestBeam : 0);
            due("frames()", x.frames(), 18 + 17);
        }
        for (int station = 0; station < 2; station++) {
            BeamTraining x = onePath();
            x.setStation(station, 8, 0, 60);
            x.sweep(0);
            x.setThreshold(72);
            due("refine with the feedback of the weaker station at the threshold", x.refine(station), 10);
            x.undo();
            x.undo();
            x.setThreshold(73);
            due("refine with the feedback of the weaker station below it", x.refine(station), 0);
        }
    }

    // ---- backups

    private static void threeBackups() {
        BeamTraining x = stations(16, 16, 0);
        x.setThreshold(ALL_HEARD);
        due("backupCount() at first", x.backupCount(), 0);
        due("backupBeam(0, 0) at first", x.backupBeam(0, 0), BAD_INDEX);
        due("survey(1) of 256 pairs", x.survey(1), 3);
        due("backupCount()", x.backupCount(), 3);
        due("frames()", x.frames(), 256);
        due("backupQuality(2) is there", x.backupQuality(2) > NONE ? 1 : 0, 1);
        due("backupQuality(3)", x.backupQuality(3), BAD_INDEX);
        BeamTraining least = stations(2, 2, 0);
        least.setThreshold(ALL_HEARD);
        due("survey(1) of 2 sectors each", least.survey(1), 2);
        due("backupQuality(1) is there", least.backupQuality(1) > NONE ? 1 : 0, 1);
        due("backupQuality(2)", least.backupQuality(2), BAD_INDEX);
    }

    private static void separationFrom1To32() {
        outside("the separation", 1, 32, BAD_VALUE, (x, v) -> x.survey(v));
        for (int d = 1; d <= 32; d++) {
            BeamTraining x = stations(16, 16, 0);
            x.setThreshold(ALL_HEARD);
            due("survey(" + d + ")", x.survey(d), d <= 20 ? 3 : 2);
            int step = (d + 3) / 4;
            backup(x, 1, step, step, 40 + 2 * wide(4 * step));
        }
    }

    private static void backupsAreMadeAnew() {
        BeamTraining x = onePath();
        x.setThreshold(ALL_HEARD);
        due("survey(4)", x.survey(4), 3);
        x.setThreshold(72);
        due("survey(4) that hears one pair", x.survey(4), 1);
        backup(x, 0, 0, 0, 72);
        due("backupBeam(1, 0)", x.backupBeam(1, 0), BAD_INDEX);
        x.setThreshold(73);
        due("survey(4) that hears none", x.survey(4), 0);
        due("backupBeam(0, 0)", x.backupBeam(0, 0), BAD_INDEX);
    }

    private static void orderOfPairs() {
        for (int seed = 0; seed < 40; seed++) {
            BeamTraining x = stations(2, 3, 40);
            x.setThreshold(ALL_HEARD);
            x.setFade(60, seed);
            int best = NONE;
            int bestPair = NONE;
            for (int n = 0; n < 6; n++) {
                int measured = wide(angle(n / 3 * 32, 0)) + wide(angle(64 * (n % 3) / 3, 0)) - fade(60, seed, n + 1);
                if (measured > best) {
                    best = measured;
                    bestPair = n;
                }
            }
            x.survey(1);
            backup(x, 0, bestPair / 3, bestPair % 3, best);
            due("frames()", x.frames(), 6);
        }
    }

    private static void onlyPairsThatAreHeard() {
        BeamTraining x = onePath();
        x.setThreshold(-56);
        due("survey(1) at the threshold", x.survey(1), 3);
        backup(x, 2, 7, 7, -56);
        x.setThreshold(-55);
        due("survey(1) above it", x.survey(1), 1);
        due("survey(32) without paths", new BeamTraining().survey(32), 0);
    }

    private static void ranksOfEqualPairs() {
        BeamTraining x = new BeamTraining();
        x.setStation(0, 2, 16, 40);
        x.setStation(1, 2, 16, 40);
        x.addPath(0, 0, 0);
        x.setThreshold(ALL_HEARD);
        due("survey(1) of four equal pairs", x.survey(1), 2);
        backup(x, 0, 0, 0, -40);
        backup(x, 1, 1, 1, -40);
        x = new BeamTraining();
        x.addPath(16, 8, 40);
        x.addPath(8, 16, 40);
        due("survey(1)", x.survey(1), 2);
        due("of the pairs (1, 2) and (2, 1) the one with the lower i", x.backupBeam(0, 0), 1);
        due("its j", x.backupBeam(0, 1), 2);
        x = new BeamTraining();
        x.addPath(16, 48, 40);
        x.addPath(16, 24, 40);
        due("survey(1)", x.survey(1), 2);
        due("of the pairs (2, 3) and (2, 6) the one with the lower j", x.backupBeam(0, 1), 3);
        x = new BeamTraining();
        x.addPath(0, 0, 41);
        x.addPath(56, 56, 40);
        due("survey(1)", x.survey(1), 2);
        due("the greatest quality before the lowest i and j", x.backupBeam(0, 0), 7);
    }

    private static void fewerThan3() {
        int[] counts = {0, 1, 2, 3, 3};
        for (int paths = 0; paths <= 4; paths++) {
            BeamTraining x = new BeamTraining();
            for (int p = 0; p < paths; p++) x.addPath(16 * p, 16 * p, 40 + p);
            due("survey(1) of " + paths + " good pairs", x.survey(1), counts[paths]);
            for (int p = 0; p < counts[paths]; p++) backup(x, p, 2 * p, 2 * p, 72 - p);
            due("backupQuality behind them", x.backupQuality(counts[paths]), BAD_INDEX);
        }
    }

    /** 16 sectors, 4 steps apart; the best pair stands beside the present beam of one station. */
    private static void atLeastTheSeparation() {
        for (int station = 0; station < 2; station++) {
            BeamTraining x = stations(16, 16, 0);
            x.setThreshold(ALL_HEARD);
            for (int present = 0; present < 3; present++) {
                x.select(station, present);
                for (int d = 1; d <= 13; d++) {
                    x.survey(d);
                    due("beam beside " + present + " with " + d, x.backupBeam(0, station), nearest(4 * present, d));
                    due("beam of the other station", x.backupBeam(0, 1 - station), 0);
                }
            }
            x.select(station, 16 + 3);
            x.survey(1);
            due("one step beside a narrow beam", x.backupBeam(0, station), 0);
            x.survey(2);
            due("less than two steps beside it", x.backupBeam(0, station), 1);
        }
    }

    /** Each station's sectors are compared with its own present beam and its own backups, whatever the other one has. */
    private static void eachStationByItsOwnDirections() {
        for (int station = 0; station < 2; station++) {
            BeamTraining x = new BeamTraining();
            x.setStation(station, 4, 3, 40);
            x.setStation(1 - station, 16, 0, 40);
            x.addPath(station == 0 ? 3 : 0, station == 0 ? 0 : 3, 0);
            x.setThreshold(ALL_HEARD);
            x.select(station, 4 + 2 + 1);
            x.select(1 - station, 16 + 2 + 1);
            due("survey(15)", x.survey(15), 3);
            due("the sector 15 away from a narrow beam one step above", x.backupBeam(0, station), 1);
            due("the sector 16 away on the other side", x.backupBeam(0, 1 - station), 4);
            due("survey(16)", x.survey(16), 2);
            due("the sector 17 away on the other side", x.backupBeam(0, station), 2);
        }
    }

    /** The first of the sectors with the greatest gain in the direction 0 among those that are d away from a direction. */
    private static int nearest(int from, int d) {
        int best = NONE;
        for (int k = 0; k < 16; k++) {
            boolean allowed = angle(4 * k, from) >= d;
            if (allowed && (best == NONE || wide(angle(4 * k, 0)) > wide(angle(4 * best, 0)))) best = k;
        }
        return best;
    }

    private static void awayFromEarlierBackups() {
        BeamTraining x = stations(16, 16, 0);
        x.setThreshold(ALL_HEARD);
        due("survey(8)", x.survey(8), 3);
        backup(x, 0, 0, 0, 112);
        backup(x, 1, 2, 2, 40 - 56);
        backup(x, 2, 14, 14, 40 - 56);
        due("survey(9)", x.survey(9), 3);
        backup(x, 1, 3, 3, 40 - 80);
        backup(x, 2, 6, 6, 40 - 80);
        for (int station = 0; station < 2; station++) {
            BeamTraining y = station == 0 ? stations(2, 16, 0) : stations(16, 2, 0);
            y.setThreshold(ALL_HEARD);
            due("survey(32)", y.survey(32), 2);
            due("only the opposite sector is left", y.backupBeam(1, station), 1);
            due("and of the other station too", y.backupBeam(1, 1 - station), 8);
        }
    }

    private static void noConditionWithoutBeam() {
        BeamTraining x = stations(2, 2, 0);
        x.setThreshold(ALL_HEARD);
        due("survey(32) without beams", x.survey(32), 2);
        backup(x, 0, 0, 0, 112);
        backup(x, 1, 1, 1, -40);
        x.select(0, 0);
        due("survey(32) with a beam of station 0", x.survey(32), 1);
        backup(x, 0, 1, 0, 36);
        x.undo();
        x.undo();
        x.select(1, 0);
        due("survey(32) with a beam of station 1", x.survey(32), 1);
        backup(x, 0, 0, 1, 36);
        x.select(0, 0);
        due("survey(32) with both", x.survey(32), 1);
        backup(x, 0, 1, 1, -40);
    }

    private static void trainingSentences() {
        section("Training");
        test("Each station has a present beam or none (none at first)", BoundaryTrainingTest::noBeamAtFirst);
        test("a table with one entry for each sector of the other station", BoundaryTrainingTest::oneEntryForEachSectorOfTheOther);
        test("or NONE (all NONE at first)", BoundaryTrainingTest::entriesAtFirst);
        test("The link is up or down (down at first)", BoundaryTrainingTest::downAtFirst);
        test("from the last sector to sector 0", BoundaryTrainingTest::fromTheLastSector);
        test("The table of R is made anew by them", BoundaryTrainingTest::tableOfTheResponderIsMadeAnew);
        test("I receives with OMNI, and its table is made anew, likewise.", BoundaryTrainingTest::tableOfTheInitiatorIsMadeAnew);
        test("for each sector the measured quality if the frame was heard, otherwise NONE",
            BoundaryTrainingTest::entriesOfFramesThatAreHeard);
        test("The best sector of I is the one with the greatest entry, of several the highest",
            BoundaryTrainingTest::highestOfSeveralBestSectors);
        test("If no frame was heard, the sweep ends with the result 1.", BoundaryTrainingTest::nobodyHearsTheInitiator);
        test("If no frame was heard, the sweep ends with the result 2.", BoundaryTrainingTest::nobodyHearsTheResponder);
        test("Otherwise the present beam of I becomes the wide beam of its best sector", BoundaryTrainingTest::beamsAfterEachResult);
        test("If it is not heard, the sweep ends with the result 3.", BoundaryTrainingTest::feedbackIsNotHeard);
        test("Otherwise the present beam of R becomes the wide beam of its best sector.", BoundaryTrainingTest::beamsOfTheResponder);
        test("If it is not heard, the sweep ends with the result 4. Otherwise the result is 0.",
            BoundaryTrainingTest::acknowledgementIsNotHeard);
        test("With the result 0 the link is up after the sweep, with any other result it is down",
            BoundaryTrainingTest::upOnlyWithTheResult0);
        test("the number of failures (below) becomes 0", BoundaryTrainingTest::failuresBecome0);
        test("A sweep leaves the backups as they are.", BoundaryTrainingTest::backupsStay);
        test("To refine the beam of a station X, while the link is up", BoundaryTrainingTest::onlyWhileUp);
        test("the sectors k - 1, k and k + 1 (modulo the number of sectors S; each sector only once if S is 2)",
            BoundaryTrainingTest::sectorsAroundGoRound);
        test("in this order, and for each sector for f from -2 to 2", BoundaryTrainingTest::orderOfTestFrames);
        test("where k is the sector of its present beam", BoundaryTrainingTest::sectorOfANarrowBeam);
        test("The best one is the heard frame with the greatest measured quality, of several the first one.",
            BoundaryTrainingTest::firstOfSeveralBestFrames);
        test("If one was heard, the other station sends a feedback frame", BoundaryTrainingTest::noFeedbackIfNoneWasHeard);
        test("if this is heard, the present beam of X becomes that of the best frame",
            BoundaryTrainingTest::feedbackAtTheThreshold);
    }

    private static void backupsSentences() {
        section("Backups");
        test("There are at most 3 backups, numbered from 0", BoundaryTrainingTest::threeBackups);
        test("A survey with the separation d (1 to 32)", BoundaryTrainingTest::separationFrom1To32);
        test("makes them anew", BoundaryTrainingTest::backupsAreMadeAnew);
        test("for each wide beam i of station 0, in ascending order, and for each wide beam j of station 1, in ascending order",
            BoundaryTrainingTest::orderOfPairs);
        test("The pairs whose frame was heard are ranked", BoundaryTrainingTest::onlyPairsThatAreHeard);
        test("by their measured quality, the greatest first, then by i, then by j, in ascending order",
            BoundaryTrainingTest::ranksOfEqualPairs);
        test("as long as there are fewer than 3", BoundaryTrainingTest::fewerThan3);
        test("is at least d, and likewise for j and station 1", BoundaryTrainingTest::atLeastTheSeparation);
        test("likewise for j and station 1", BoundaryTrainingTest::eachStationByItsOwnDirections);
        test("also for the beams of each earlier backup in the place of the present beams",
            BoundaryTrainingTest::awayFromEarlierBackups);
        test("(A station without a present beam sets no condition by it.)", BoundaryTrainingTest::noConditionWithoutBeam);
    }

    public static void main(String[] args) {
        trainingSentences();
        backupsSentences();
        end();
    }
}
