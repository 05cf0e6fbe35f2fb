/** Boundaries in the description: directions and levels, stations and beams, paths, frames; and the 512 calls. */
public final class BoundaryRadioTest extends Sentences {

    // ---- what it is

    private static void fiveHundredAndTwelveCalls() {
        BeamTraining x = new BeamTraining();
        x.setStation(0, 16, 63, 100);
        x.setStation(1, 16, 1, 100);
        for (int path = 0; path < 8; path++) due("addPath", x.addPath(8 * path, 63 - 8 * path, 40 * path), path);
        x.setTracking(true, 0);
        x.setRecovery(1, true);
        for (int call = 13; call <= 511; call++) due("pass(50) is an error", x.pass(50) < 0 ? 1 : 0, 0);
        due("interval() as the 512th call", x.interval(), 499 * 50);

        BeamTraining outages = linked();
        for (int call = 40; call <= 512; call++) due("outage(100)", outages.outage(100), NONE);

        BeamTraining text = new BeamTraining();
        for (int call = 1; call <= 512; call++) due("type as call " + call, text.type(97), call <= 120 ? call : FULL);

        BeamTraining settings = new BeamTraining();
        for (int call = 1; call <= 505; call++) settings.setThreshold(call % 100);
        for (int left = 5; left >= 0; left--) due("undo()", settings.undo(), left);
        due("undo() as the 512th call", settings.undo(), BAD_STATE);
    }

    // ---- directions and levels

    private static void directionsFrom0To63() {
        outside("the direction of gain", 0, 63, BAD_VALUE, (x, v) -> x.gain(0, 0, v));
        outside("the direction at station 0 of addPath", 0, 63, BAD_VALUE, (x, v) -> x.addPath(v, 0, 0));
        outside("the direction at station 1 of addPath", 0, 63, BAD_VALUE, (x, v) -> x.addPath(0, v, 0));
        outside("the orientation of setStation", 0, 63, BAD_VALUE, (x, v) -> x.setStation(0, 8, v, 40));
        BeamTraining x = new BeamTraining();
        due("gain toward 0", x.gain(0, 0, 0), 36);
        due("gain toward 63", x.gain(0, 0, 63), 35);
        due("addPath(0, 63, 0)", x.addPath(0, 63, 0), 0);
        due("addPath(63, 0, 0)", x.addPath(63, 0, 0), 1);
        due("pathDirection(0, 0)", x.pathDirection(0, 0), 0);
        due("pathDirection(1, 0)", x.pathDirection(1, 0), 63);
    }

    private static void directionsGoRound() {
        BeamTraining x = new BeamTraining();
        due("rotate(0, 63)", x.rotate(0, 63), 63);
        due("63 and 1 more", x.rotate(0, 1), 0);
        due("0 and 1 less", x.rotate(0, -1), 63);
        due("63 and 63 more", x.rotate(0, 63), 62);
        due("62 and 63 less", x.rotate(0, -63), 63);
        due("sector 1 from the orientation 63", x.direction(0, 1), 7);
        due("sector 7 from the orientation 63", x.direction(0, 7), 55);
        due("the narrow beam 2 beside 63", x.direction(0, 12), 1);
        due("the narrow beam -2 beside 0", x.direction(1, 8), 62);
        x.addPath(63, 0, 0);
        x.setDrift(0, 1, -1);
        x.pass(1);
        due("a path at 63 that drifts by 1", x.pathDirection(0, 0), 0);
        due("a path at 0 that drifts by -1", x.pathDirection(0, 1), 63);
        due("gain over the edge", x.gain(1, 0, 63), 35);
        due("gain of a beam at 63 toward 1", x.gain(0, 0, 1), 32);
    }

    /** Two sectors, at 0 and 32: a narrow present beam stands 31 or 32 from the farther one. */
    private static void anglesFrom0To32() {
        for (int d = 0; d <= 63; d++) {
            due("gain toward " + d, new BeamTraining().gain(0, 0, d), wide(Math.min(d, 64 - d)));
        }
        for (int present = 0; present < 12; present++) {
            BeamTraining x = stations(2, 2, 0);
            x.setThreshold(-200);
            x.select(0, present);
            int pointing = x.direction(0, present);
            int farther = Math.max(angle(pointing, 0), angle(pointing, 32));
            for (int d = 30; d <= 32; d++) {
                due("survey(" + d + ") beside " + pointing, x.survey(d) > 0 ? 1 : 0, farther >= d ? 1 : 0);
            }
        }
    }

    /** The received power of station 1 over two paths, at 0 and at 32 on both sides, with two sectors each. */
    private static float received(int i, int j, int loss, int otherLoss) {
        int same = wide(32 * i) + wide(32 * j);
        int other = wide(32 - 32 * i) + wide(32 - 32 * j);
        return 0.0f + power(40 + same - loss) + power(40 + other - otherLoss);
    }

    private static void sharesOfLosses(int loss, int otherLoss) {
        BeamTraining x = stations(2, 2, loss);
        x.addPath(32, 32, otherLoss);
        float sum = 0.0f;
        for (int i = 0; i < 2; i++) for (int j = 0; j < 2; j++) sum += received(i, j, loss, otherLoss);
        for (int i = 0; i < 2; i++) {
            for (int j = 0; j < 2; j++) {
                int bits = Float.floatToIntBits(received(i, j, loss, otherLoss) / sum);
                due("shareBits(" + i + ", " + j + ") with " + loss + ", " + otherLoss, x.shareBits(i, j), bits);
            }
        }
    }

    /** Levels from 40 + 72 down to 40 - 80 - 300: with positive and negative numbers to divide by 12. */
    private static void floorDivisionOfLevels() {
        for (int loss = 0; loss <= 300; loss += 3) sharesOfLosses(loss, Math.min(300, loss + 5));
        BeamTraining x = new BeamTraining();
        x.addPath(0, 0, 0);
        x.addPath(0, 0, 0);
        for (int loss = 0; loss <= 100; loss++) {
            x.undo();
            x.undo();
            x.addPath(0, 0, loss);
            x.addPath(0, 0, loss);
            due("the doubled power of the level " + (40 - loss), x.quality(0, -1, -1), 40 - loss + 12);
        }
    }

    private static void twelveSteps() {
        for (int step = 0; step <= 11; step++) {
            for (int otherStep = 0; otherStep <= 11; otherStep++) sharesOfLosses(64 + step, 64 + otherStep);
        }
    }

    // ---- stations and beams

    private static void twoStations() {
        for (int station = 0; station < 2; station++) {
            BeamTraining x = new BeamTraining();
            due("select", x.select(station, 5), NONE);
            due("beam of the station", x.beam(station), 5);
            due("beam of the other one", x.beam(1 - station), NONE);
        }
        noSuchStation("setStation", (x, v) -> x.setStation(v, 8, 0, 40));
        noSuchStation("beam", BeamTraining::beam);
    }

    private static void twoToSixteenSectors() {
        range("the sectors of setStation", 2, 16, (x, v) -> x.setStation(1, v, 0, 40), x -> x.setStation(1, 8, 0, 40));
        for (int station = 0; station < 2; station++) {
            BeamTraining x = new BeamTraining();
            due("the sectors at first", x.setStation(station, 2, 0, 40), 8);
            due("beam 11, the last one of 2 sectors", x.direction(station, 11), 34);
            due("beam 12 of 2 sectors", x.direction(station, 12), BAD_VALUE);
            due("setStation of 16 sectors", x.setStation(station, 16, 0, 40), 2);
            due("beam 95, the last one of 16 sectors", x.direction(station, 95), 62);
            due("beam 96 of 16 sectors", x.direction(station, 96), BAD_VALUE);
        }
    }

    private static void orientationAtFirst() {
        for (int station = 0; station < 2; station++) {
            BeamTraining x = new BeamTraining();
            due("direction of sector 0 at first", x.direction(station, 0), 0);
            due("rotate by 0", x.rotate(station, 0), 0);
        }
        range("the orientation of setStation", 0, 63, (x, v) -> x.setStation(0, 8, v, 40), x -> x.direction(0, 0));
    }

    private static void powerFrom0To100() {
        BeamTraining x = new BeamTraining();
        x.addPath(0, 0, 0);
        due("the power of station 0 at first", x.quality(0, -1, -1), 40);
        due("the power of station 1 at first", x.quality(1, -1, -1), 40);
        range("the power of station 0", 0, 100, (y, v) -> y.setStation(0, 8, 0, v), y -> loneQuality(y, 0));
        range("the power of station 1", 0, 100, (y, v) -> y.setStation(1, 8, 0, v), y -> loneQuality(y, 1));
    }

    /** The quality from a station over a path without loss alone: its transmit power. */
    private static int loneQuality(BeamTraining x, int from) {
        for (int path = x.pathCount() - 1; path >= 0; path--) x.removePath(path);
        x.addPath(0, 0, 0);
        return x.quality(from, -1, -1);
    }

    private static void sectorsPointByIntegerDivision() {
        for (int sectors = 2; sectors <= 16; sectors++) {
            for (int orientation : new int[] {0, 1, 32, 63}) {
                BeamTraining x = new BeamTraining();
                x.setStation(1, sectors, orientation, 40);
                for (int k = 0; k < sectors; k++) {
                    due("sector " + k + " of " + sectors, x.direction(1, k), turn(orientation + 64 * k / sectors));
                }
            }
        }
        BeamTraining x = new BeamTraining();
        x.setStation(0, 3, 63, 40);
        due("sector 1 of 3 from 63", x.direction(0, 1), 20);
        due("sector 2 of 3 from 63", x.direction(0, 2), 41);
    }

    private static void beamsFromOmniToTheLast() {
        for (int sectors = 2; sectors <= 16; sectors++) {
            BeamTraining x = new BeamTraining();
            x.setStation(0, sectors, 5, 40);
            due("OMNI", x.gain(0, -1, 5), 0);
            due("below OMNI", x.gain(0, -2, 5), BAD_VALUE);
            due("the last wide beam", x.gain(0, sectors - 1, x.direction(0, sectors - 1)), 36);
            due("the first narrow beam", x.gain(0, sectors, x.direction(0, sectors)), 48);
            due("the first narrow beam's direction", x.direction(0, sectors), 3);
            int last = sectors + 5 * (sectors - 1) + 2 + 2;
            due("the last narrow beam", x.gain(0, last, x.direction(0, last)), 48);
            due("behind the last narrow beam", x.gain(0, last + 1, 0), BAD_VALUE);
            due("select of the last narrow beam", x.select(0, last), NONE);
            due("select behind the last narrow beam", x.select(0, last + 1), BAD_VALUE);
        }
    }

    private static void narrowBeamsPointBesideTheirSector() {
        for (int sectors : new int[] {2, 7, 16}) {
            BeamTraining x = new BeamTraining();
            x.setStation(0, sectors, 63, 40);
            for (int k = 0; k < sectors; k++) {
                for (int f = -2; f <= 2; f++) {
                    int want = turn(63 + 64 * k / sectors + f);
                    due("narrow beam " + f + " of sector " + k, x.direction(0, sectors + 5 * k + f + 2), want);
                }
            }
        }
    }

    private static void gainsOfOmni() {
        BeamTraining x = new BeamTraining();
        for (int toward = 0; toward < 64; toward++) due("gain of OMNI", x.gain(1, -1, toward), 0);
    }

    private static void gainsOfWideBeams() {
        BeamTraining x = new BeamTraining();
        due("the last one above -40", x.gain(0, 0, 8), -28);
        due("the first one at -40", x.gain(0, 0, 9), -40);
        for (int toward = 0; toward < 64; toward++) {
            due("gain toward " + toward, x.gain(0, 3, toward), wide(angle(24, toward)));
        }
    }

    private static void gainsOfNarrowBeams() {
        BeamTraining x = new BeamTraining();
        due("the last one above -40", x.gain(0, 10, 5), -27);
        due("the first one at -40", x.gain(0, 10, 6), -40);
        for (int toward = 0; toward < 64; toward++) {
            due("gain toward " + toward, x.gain(0, 8 + 15 + 4, toward), narrow(angle(26, toward)));
        }
    }

    // ---- paths

    private static void eightPaths() {
        BeamTraining x = new BeamTraining();
        due("pathCount() at first", x.pathCount(), 0);
        due("pathDirection(0, 0) at first", x.pathDirection(0, 0), BAD_INDEX);
        for (int path = 0; path < 8; path++) {
            due("addPath", x.addPath(path, 0, 0), path);
            due("pathDirection of the last path", x.pathDirection(path, 0), path);
            due("pathDirection behind it", x.pathDirection(path + 1, 0), BAD_INDEX);
        }
        due("pathCount()", x.pathCount(), 8);
        due("a ninth path", x.addPath(8, 0, 0), FULL);
        due("pathCount()", x.pathCount(), 8);
    }

    private static void lossFrom0To300() {
        range("the loss of addPath", 0, 300, (x, v) -> x.addPath(0, 0, v), x -> {
            for (int others = x.pathCount() - 1; others > 0; others--) x.removePath(0);
            return 40 - x.quality(0, -1, -1);
        });
    }

    private static void extraLossFrom0To200() {
        range("the extra loss of setBlock", 0, 200, (x, v) -> x.setBlock(2, v), x -> x.setBlock(2, 0));
        BeamTraining x = new BeamTraining();
        x.addPath(0, 0, 300);
        due("the extra loss at first", x.setBlock(0, 200), 0);
        due("the quality of a path that is blocked", x.quality(0, -1, -1), 40 - 300 - 200);
    }

    private static void driftsFromMinus3To3() {
        range("the drift at station 0", -3, 3, (x, v) -> x.setDrift(0, v, 0), x -> driftOf(x, 0));
        range("the drift at station 1", -3, 3, (x, v) -> x.setDrift(0, 0, v), x -> driftOf(x, 1));
        BeamTraining x = new BeamTraining();
        x.addPath(7, 9, 0);
        x.pass(50);
        due("no drift at station 0 at first", x.pathDirection(0, 0), 7);
        due("no drift at station 1 at first", x.pathDirection(0, 1), 9);
    }

    /** How far path 0 goes in an interval at a station, as a number from -32 to 31. */
    private static int driftOf(BeamTraining x, int station) {
        int before = x.pathDirection(0, station);
        x.pass(1);
        return turn(x.pathDirection(0, station) - before + 32) - 32;
    }

    private static void driftsGoRound() {
        for (int drift = -3; drift <= 3; drift++) {
            for (int from : new int[] {0, 1, 2, 3, 31, 60, 61, 62, 63}) {
                BeamTraining x = new BeamTraining();
                x.addPath(from, 63 - from, 0);
                x.setDrift(0, drift, -drift);
                x.pass(1);
                due("from " + from + " by " + drift, x.pathDirection(0, 0), turn(from + drift));
                due("from " + (63 - from) + " by " + -drift, x.pathDirection(0, 1), turn(63 - from - drift));
                x.pass(50);
                due("after 51 intervals", x.pathDirection(0, 0), turn(from + 51 * drift));
            }
        }
    }

    /** A strong path swallows the bits of the weak ones after it, but not those of the weak ones before it. */
    private static void pathsAreAddedInAscendingOrder() {
        int[] losses = {0, 271, 272, 273, 275, 277, 279, 281};
        int[] turned = new int[8];
        for (int p = 0; p < 8; p++) turned[p] = losses[7 - p];
        int bits = sharesOfEqualPairs(losses);
        int turnedBits = sharesOfEqualPairs(turned);
        due("the order of the paths is without effect", bits == turnedBits ? 1 : 0, 0);
    }

    /** The pair (0, 0) with the paths at 0, the pair (1, 1) with one path at 32: their share tells the sum's bits. */
    private static int sharesOfEqualPairs(int[] losses) {
        BeamTraining x = new BeamTraining();
        x.setStation(0, 2, 0, 40);
        x.setStation(1, 2, 0, 40);
        float[] pairs = new float[4];
        for (int loss : losses) {
            x.addPath(0, 0, loss);
            for (int pair = 0; pair < 4; pair++) {
                pairs[pair] += power(40 + wide(pair / 2 * 32) + wide(pair % 2 * 32) - loss);
            }
        }
        float sum = 0.0f;
        for (float pair : pairs) sum += pair;
        for (int pair = 0; pair < 4; pair++) {
            int bits = Float.floatToIntBits(pairs[pair] / sum);
            due("shareBits of the pair " + pair, x.shareBits(pair / 2, pair % 2), bits);
        }
        return Float.floatToIntBits(pairs[0] / sum);
    }

    private static void greatestQualityNotAbove() {
        BeamTraining x = new BeamTraining();
        x.addPath(0, 0, 0);
        for (int extra = 0; extra <= 200; extra++) {
            x.setBlock(0, extra);
            due("a power that is just reached", x.quality(0, -1, -1), 40 - extra);
        }
        for (int n = 1; n <= 8; n++) {
            int[] levels = new int[n];
            BeamTraining many = new BeamTraining();
            many.setStation(0, 8, 0, 100);
            for (int p = 0; p < n; p++) {
                many.addPath(0, 0, 0);
                levels[p] = 100 + 48 + 48;
            }
            due("the greatest quality of " + n + " paths", many.quality(0, 10, 10), quality(levels));
        }
        BeamTraining weakest = new BeamTraining();
        weakest.setStation(0, 8, 0, 0);
        weakest.addPath(32, 32, 300);
        weakest.setBlock(0, 200);
        due("the least quality", weakest.quality(0, 10, 10), -40 - 40 - 300 - 200);
        BeamTraining less = new BeamTraining();
        for (int n = 0; n < 8; n++) less.addPath(0, 0, 250);
        due("a power that is missed by a bit", less.quality(0, -1, -1), -210 + 36 - 1);
    }

    private static void noQualityWithoutPaths() {
        BeamTraining x = new BeamTraining();
        for (int from = 0; from < 2; from++) {
            due("quality at first", x.quality(from, -1, -1), NONE);
            due("quality of the last beams", x.quality(from, 47, 47), NONE);
        }
        x.addPath(0, 0, 300);
        due("quality with one path", x.quality(0, -1, -1), -260);
        x.removePath(0);
        due("quality when it is removed", x.quality(0, -1, -1), NONE);
    }

    // ---- frames

    /** The table of station 1 after 8 frames over one path without loss, for frames that are all heard. */
    private static void heardWithFades(BeamTraining x, int amplitude, int seed) {
        due("sweep(0)", x.sweep(0), 0);
        for (int k = 0; k < 8; k++) {
            int want = 40 + wide(angle(8 * k, 0)) - fade(amplitude, seed, 8 - k);
            due("heard(1, " + k + ") with " + amplitude + ", " + seed, x.heard(1, k), want);
        }
    }

    private static BeamTraining hearsAll(int amplitude, int seed) {
        BeamTraining x = new BeamTraining();
        x.addPath(0, 0, 0);
        x.setThreshold(-200);
        x.setFade(amplitude, seed);
        return x;
    }

    private static void xAtFirst() {
        BeamTraining x = typed("path 0 0 0;threshold -200;fade 60");
        due("load()", x.load(), 1);
        heardWithFades(x, 60, 1);
    }

    private static void fadeAmplitudes() {
        range("the amplitude of setFade", 0, 60, (x, v) -> x.setFade(v, 5), x -> x.setFade(0, 0));
        due("the amplitude at first", new BeamTraining().setFade(60, 1), 0);
        BeamTraining x = hearsAll(0, 1);
        x.undo();
        heardWithFades(x, 0, 1);
    }

    private static void xOverflows() {
        for (int seed : new int[] {0, 1, -1, MOST, LEAST, 1 << 30, 123456789}) heardWithFades(hearsAll(60, seed), 60, seed);
        BeamTraining x = hearsAll(60, 5);
        int value = 5;
        for (int frame = 1; frame <= 18; frame++) value = value * 1664525 + 1013904223;
        x.sweep(0);
        BeamTraining same = hearsAll(60, 5);
        same.sweep(0);
        same.setFade(60, value);
        due("x after 18 frames", same.digest(), x.digest());
    }

    private static void fadesFrom0ToA() {
        for (int amplitude : new int[] {1, 2, 59, 60}) {
            int none = seed(v -> fade(amplitude, v, 8) == 0);
            int all = seed(v -> fade(amplitude, v, 8) == amplitude);
            heardWithFades(hearsAll(amplitude, none), amplitude, none);
            heardWithFades(hearsAll(amplitude, all), amplitude, all);
            BeamTraining x = hearsAll(amplitude, all);
            x.sweep(0);
            due("the greatest fade", x.heard(1, 0), 76 - amplitude);
        }
        int negative = seed(v -> v * 1664525 + 1013904223 < 0);
        heardWithFades(hearsAll(60, negative), 60, negative);
        heardWithFades(hearsAll(0, negative), 0, negative);
    }

    /** The least and the greatest fade of the last frame of a sweep, and of the first frame of a survey. */
    private static void qualityMinusFade() {
        for (int fade : new int[] {0, 1, 59, 60}) {
            BeamTraining x = hearsAll(60, seed(v -> fade(60, v, 8) == fade));
            x.sweep(0);
            due("heard(1, 0) with the fade " + fade, x.heard(1, 0), 76 - fade);
            BeamTraining y = stations(2, 2, 0);
            y.setFade(60, seed(v -> fade(60, v, 1) == fade));
            y.setThreshold(112 - fade);
            due("survey(32) at the threshold", y.survey(32), 1);
            due("backupQuality(0) with the fade " + fade, y.backupQuality(0), 112 - fade);
        }
    }

    private static void notHeardWithoutPaths() {
        BeamTraining x = new BeamTraining();
        x.setThreshold(-200);
        due("sweep(0)", x.sweep(0), 1);
        for (int k = 0; k < 8; k++) due("heard(1, " + k + ")", x.heard(1, k), NONE);
        due("survey(1)", x.survey(1), 0);
        x.addPath(0, 0, 0);
        due("sweep(0) with a path", x.sweep(0), 0);
        x.removePath(0);
        due("pass(2) when it is removed", x.pass(2), 0);
    }

    private static void heardAtTheThreshold() {
        range("the threshold of setThreshold", -200, 200, (x, v) -> x.setThreshold(v), x -> x.setThreshold(0));
        BeamTraining first = new BeamTraining();
        first.addPath(0, 0, 76);
        due("the quality 0 with the threshold at first", first.sweep(0), 0);
        due("heard(1, 0)", first.heard(1, 0), 0);
        first = new BeamTraining();
        first.addPath(0, 0, 77);
        due("the quality -1 with the threshold at first", first.sweep(0), 1);
        for (int threshold = -200; threshold <= 76; threshold++) {
            BeamTraining x = new BeamTraining();
            x.addPath(0, 0, Math.min(300, 76 - threshold));
            x.setThreshold(threshold);
            due("at the threshold " + threshold, x.sweep(0), 0);
            due("heard(0, 0)", x.heard(0, 0), threshold);
            x.setBlock(0, 1);
            due("below the threshold " + threshold, x.sweep(0), 1);
        }
        greatestThreshold();
        fadeBelowTheThreshold();
    }

    /** Two paths with the level 188 have the quality 200; with one loss more, 199. */
    private static void greatestThreshold() {
        BeamTraining x = new BeamTraining();
        x.setStation(0, 8, 0, 100);
        x.setStation(1, 8, 0, 100);
        x.addPath(0, 0, 8);
        x.addPath(0, 0, 8);
        x.sweep(0);
        x.select(0, 10);
        x.select(1, 10);
        x.setThreshold(200);
        x.pass(1);
        due("failures() at the threshold 200", x.failures(), 0);
        x.setBlock(1, 1);
        x.pass(1);
        due("failures() below the threshold 200", x.failures(), 1);
    }

    private static void fadeBelowTheThreshold() {
        int seed = seed(v -> fade(60, v, 8) == 30);
        for (int threshold = 46; threshold <= 47; threshold++) {
            BeamTraining x = hearsAll(60, seed);
            x.setThreshold(threshold);
            x.sweep(0);
            due("the quality 76 with the fade 30", x.heard(1, 0), threshold == 46 ? 46 : NONE);
        }
    }

    private static void framesAndTheirTimes() {
        BeamTraining x = new BeamTraining();
        due("frames() at first", x.frames(), 0);
        due("time() at first", x.time(), 0);
        x.sweep(0);
        due("frames that nobody hears count", x.frames(), 8);
        due("and take their time", x.time(), 8 * 16);
        x.survey(1);
        due("frames() of a survey without paths", x.frames(), 8 + 64);
        due("time() of a survey without paths", x.time(), 8 * 16 + 64 * 4);
        x.addPath(0, 0, 40);
        x.sweep(1);
        due("frames() of a whole sweep", x.frames(), 72 + 18);
        due("time() of a whole sweep", x.time(), 384 + 16 * 16 + 9 + 9);
        x.refine(0);
        due("frames() of refining", x.frames(), 90 + 17);
        due("time() of refining", x.time(), 658 + 16 * 4 + 9);
        x.pass(1);
        due("frames() of an interval", x.frames(), 107 + 2);
        due("time() of an interval", x.time(), 731 + 2 * 2);
        x.setTracking(true, 0);
        x.pass(1);
        due("frames() of an interval with tracking", x.frames(), 109 + 8);
        due("time() of an interval with tracking", x.time(), 735 + 8 * 2);
        x.setTracking(false, 0);
        x.survey(8);
        x.setBlock(0, 200);
        x.setRecovery(1, false);
        int backups = x.backupCount();
        x.pass(1);
        due("frames() of backups that are not heard", x.frames(), 117 + 64 + 2 + backups);
        due("time() of backups that are not heard", x.time(), 751 + 256 + 4 + 4 * backups);
    }

    private static void whatItIsSentences() {
        section("What it is");
        test("An object is used for at most 512 calls after it has been made", BoundaryRadioTest::fiveHundredAndTwelveCalls);
    }

    private static void directionsAndLevelsSentences() {
        section("Directions and levels");
        test("A direction is an int from 0 to 63", BoundaryRadioTest::directionsFrom0To63);
        test("sums and differences of directions are taken modulo 64", BoundaryRadioTest::directionsGoRound);
        test("The angle of two directions is the smaller one of their differences in both orders (0 to 32).",
            BoundaryRadioTest::anglesFrom0To32);
        test("mod and div are those of the floor division (so q mod 12 is 0 to 11)", BoundaryRadioTest::floorDivisionOfLevels);
        test("C is 1.0f, 1.0594631f, 1.122462f, 1.1892071f, 1.2599211f, 1.3348398f, 1.4142135f, 1.4983071f, 1.587401f, "
            + "1.6817929f, 1.7817974f, 1.8877486f.", BoundaryRadioTest::twelveSteps);
    }

    private static void stationsAndBeamsSentences() {
        section("Stations and beams");
        test("There are two stations, 0 and 1.", BoundaryRadioTest::twoStations);
        test("A station has 2 to 16 sectors (8 at first)", BoundaryRadioTest::twoToSixteenSectors);
        test("an orientation (a direction, 0 at first)", BoundaryRadioTest::orientationAtFirst);
        test("a transmit power (0 to 100; 40 at first)", BoundaryRadioTest::powerFrom0To100);
        test("Sector k points to the direction (orientation + 64 * k / (number of sectors)), with integer division.",
            BoundaryRadioTest::sectorsPointByIntegerDivision);
        test("OMNI (-1); k, from 0 to S - 1, the wide beam of sector k; or S + 5 * k + f + 2, with f from -2 to 2, a narrow beam",
            BoundaryRadioTest::beamsFromOmniToTheLast);
        test("a narrow beam to this direction plus f", BoundaryRadioTest::narrowBeamsPointBesideTheirSector);
        test("is 0 for OMNI", BoundaryRadioTest::gainsOfOmni);
        test("36 - d * d, but at least -40, for a wide beam", BoundaryRadioTest::gainsOfWideBeams);
        test("48 - 3 * d * d, but at least -40, for a narrow beam", BoundaryRadioTest::gainsOfNarrowBeams);
    }

    private static void pathsSentences() {
        section("Paths");
        test("at most 8 paths, numbered from 0 (none at first)", BoundaryRadioTest::eightPaths);
        test("a loss (0 to 300)", BoundaryRadioTest::lossFrom0To300);
        test("an extra loss (0 to 200; 0 at first)", BoundaryRadioTest::extraLossFrom0To200);
        test("a drift at each station (-3 to 3; 0 at first)", BoundaryRadioTest::driftsFromMinus3To3);
        test("by which its direction there changes in each interval", BoundaryRadioTest::driftsGoRound);
        test("the sum of POWER(level) over all paths, in ascending order, beginning with 0.0f",
            BoundaryRadioTest::pathsAreAddedInAscendingOrder);
        test("The quality is the greatest int q for which POWER(q) is not greater than the received power",
            BoundaryRadioTest::greatestQualityNotAbove);
        test("it is NONE if there are no paths", BoundaryRadioTest::noQualityWithoutPaths);
    }

    private static void framesSentences() {
        section("Frames");
        test("There is an int x (1 at first)", BoundaryRadioTest::xAtFirst);
        test("a fade amplitude A (0 to 60; 0 at first)", BoundaryRadioTest::fadeAmplitudes);
        test("x becomes x * 1664525 + 1013904223 (int arithmetic with overflow)", BoundaryRadioTest::xOverflows);
        test("the fade of the frame is (x >>> 8) % (A + 1)", BoundaryRadioTest::fadesFrom0ToA);
        test("The measured quality of the frame is its quality minus its fade.", BoundaryRadioTest::qualityMinusFade);
        test("A frame is heard if there are paths", BoundaryRadioTest::notHeardWithoutPaths);
        test("its measured quality is at least the threshold (-200 to 200; 0 at first)", BoundaryRadioTest::heardAtTheThreshold);
        test("Each frame counts, and takes a time in microseconds: 16 for a sweep frame, 9 for a feedback or "
            + "acknowledgement frame, 4 for a test frame, 2 for a data frame.", BoundaryRadioTest::framesAndTheirTimes);
    }

    public static void main(String[] args) {
        whatItIsSentences();
        directionsAndLevelsSentences();
        stationsAndBeamsSentences();
        pathsSentences();
        framesSentences();
        end();
    }
}
