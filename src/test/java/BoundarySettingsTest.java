/** Boundaries of stations, paths and settings: the promises 6 to 15. */
public final class BoundarySettingsTest extends Sentences {

    /** Each path that is there is taken, with 1, 7 and 8 of them. */
    private static void eachPath(String name, Setter call) {
        for (int many : new int[] {1, 7, 8}) each(name, many, () -> withPaths(many), call);
    }

    /** No other path is there, also if there are none. */
    private static void noSuchPath(String name, Setter call) {
        for (int many : new int[] {0, 1, 7, 8}) noSuch(name, many, () -> withPaths(many), call);
    }

    // ---- promise 6

    private static void whatASetUpStationLoses() {
        for (int station = 0; station < 2; station++) {
            BeamTraining x = linked();
            int other = x.beam(1 - station);
            int frames = x.frames();
            int events = x.eventCount();
            due("isUp() before", x.isUp(), 1);
            due("backupCount() before", x.backupCount(), 2);
            due("setStation to the same values", x.setStation(station, 8, 0, 40), 8);
            due("beam of it", x.beam(station), NONE);
            due("beam of the other one", x.beam(1 - station), other);
            due("isUp()", x.isUp(), 0);
            due("backupCount()", x.backupCount(), 0);
            for (int k = 0; k < 8; k++) {
                due("heard(0, " + k + ")", x.heard(0, k), NONE);
                due("heard(1, " + k + ")", x.heard(1, k), NONE);
            }
            due("frames()", x.frames(), frames);
            due("eventCount()", x.eventCount(), events);
            due("refine", x.refine(1 - station), BAD_STATE);
        }
        BeamTraining x = new BeamTraining();
        x.setStation(0, 16, 0, 40);
        due("the new last entry of the other table", x.heard(1, 15), NONE);
        due("behind it", x.heard(1, 16), BAD_INDEX);
        x.setStation(0, 2, 0, 40);
        due("the new last entry of the other table", x.heard(1, 1), NONE);
        due("behind it", x.heard(1, 2), BAD_INDEX);
        due("its own table has the sectors of the other one", x.heard(0, 7), NONE);
    }

    private static void setStationSectors() {
        range("the sectors", 2, 16, (x, v) -> x.setStation(0, v, 0, 40), x -> x.setStation(0, 8, 0, 40));
    }

    private static void setStationOrientation() {
        range("the orientation", 0, 63, (x, v) -> x.setStation(1, 8, v, 40), x -> x.direction(1, 0));
    }

    private static void setStationPower() {
        range("the power", 0, 100, (x, v) -> x.setStation(0, 8, 0, v), x -> {
            for (int path = 2; path >= 0; path--) x.removePath(path);
            x.addPath(1, 1, 0);
            return x.quality(0, -1, -1);
        });
    }

    private static void previousSectors() {
        BeamTraining x = new BeamTraining();
        due("setStation at first", x.setStation(0, 16, 0, 40), 8);
        due("setStation after 16 sectors", x.setStation(0, 2, 0, 40), 16);
        due("setStation after 2 sectors", x.setStation(0, 2, 0, 40), 2);
        due("setStation of the other one", x.setStation(1, 2, 0, 40), 8);
    }

    private static void setStationOutOfRange() {
        for (int station = 0; station < 2; station++) {
            int asked = station;
            refused("1 sector", BAD_VALUE, x -> x.setStation(asked, 1, 0, 40));
            refused("17 sectors", BAD_VALUE, x -> x.setStation(asked, 17, 0, 40));
            refused("the orientation -1", BAD_VALUE, x -> x.setStation(asked, 8, -1, 40));
            refused("the orientation 64", BAD_VALUE, x -> x.setStation(asked, 8, 64, 40));
            refused("the power -1", BAD_VALUE, x -> x.setStation(asked, 8, 0, -1));
            refused("the power 101", BAD_VALUE, x -> x.setStation(asked, 8, 0, 101));
        }
    }

    // ---- promise 7

    private static void rotateBy() {
        for (int by = -63; by <= 63; by++) due("rotate(0, " + by + ")", linked().rotate(0, by), turn(by));
        outside("rotate", -63, 63, BAD_VALUE, (x, v) -> x.rotate(0, v));
    }

    private static void rotateOutOfRange() {
        for (int station = 0; station < 2; station++) {
            int asked = station;
            for (int by : new int[] {LEAST, -128, -65, -64, 64, 65, 128, MOST}) {
                refused("rotate by " + by, BAD_VALUE, x -> x.rotate(asked, by));
                refused("rotate by " + by + " at first", BAD_VALUE, BeamTraining::new, x -> x.rotate(asked, by));
            }
        }
    }

    private static void rotatesFromEachEnd() {
        for (int from : new int[] {0, 1, 31, 32, 62, 63}) {
            for (int by = -63; by <= 63; by++) {
                BeamTraining x = new BeamTraining();
                x.setStation(1, 8, from, 40);
                due("rotate(1, " + by + ") from " + from, x.rotate(1, by), turn(from + by));
                due("direction(1, 0)", x.direction(1, 0), turn(from + by));
                due("direction(0, 0)", x.direction(0, 0), 0);
            }
        }
    }

    // ---- promise 8

    private static void withoutExtraLossAndDrifts() {
        BeamTraining x = withPaths(8);
        for (int path = 0; path < 8; path++) {
            x.setBlock(path, 200);
            x.setDrift(path, 3, -3);
        }
        for (int path = 7; path >= 0; path--) x.removePath(path);
        for (int path = 0; path < 8; path++) {
            due("addPath", x.addPath(9, 9, 9), path);
            due("its extra loss", x.setBlock(path, 0), 0);
        }
        x.pass(1);
        for (int path = 0; path < 8; path++) {
            due("its direction at station 0", x.pathDirection(path, 0), 9);
            due("its direction at station 1", x.pathDirection(path, 1), 9);
        }
    }

    private static void addPathDirection0() {
        range("direction0", 0, 63, (x, v) -> x.addPath(v, 5, 0), x -> x.pathDirection(3, 0));
    }

    private static void addPathDirection1() {
        range("direction1", 0, 63, (x, v) -> x.addPath(5, v, 0), x -> x.pathDirection(3, 1));
    }

    private static void addPathLoss() {
        range("the loss", 0, 300, (x, v) -> x.addPath(5, 5, v), x -> {
            for (int others = 0; others < 3; others++) x.removePath(0);
            return 40 - x.quality(1, -1, -1);
        });
    }

    private static void addPathErrors() {
        for (int paths : new int[] {0, 7, 8}) {
            int many = paths;
            refused("direction0 of -1", BAD_VALUE, () -> withPaths(many), x -> x.addPath(-1, 0, 0));
            refused("direction0 of 64", BAD_VALUE, () -> withPaths(many), x -> x.addPath(64, 0, 0));
            refused("direction1 of -1", BAD_VALUE, () -> withPaths(many), x -> x.addPath(0, -1, 0));
            refused("direction1 of 64", BAD_VALUE, () -> withPaths(many), x -> x.addPath(0, 64, 0));
            refused("a loss of -1", BAD_VALUE, () -> withPaths(many), x -> x.addPath(0, 0, -1));
            refused("a loss of 301", BAD_VALUE, () -> withPaths(many), x -> x.addPath(0, 0, 301));
        }
    }

    private static void numbersOfNewPaths() {
        for (int paths = 0; paths < 8; paths++) due("addPath", withPaths(paths).addPath(63, 63, 300), paths);
    }

    private static void noRoomForANinthPath() {
        refused("a ninth path", FULL, () -> withPaths(8), x -> x.addPath(0, 0, 0));
        BeamTraining x = withPaths(8);
        due("a ninth path", x.addPath(0, 0, 0), FULL);
        x.removePath(3);
        due("an eighth path", x.addPath(0, 0, 0), 7);
        due("a ninth path", x.addPath(0, 0, 0), FULL);
    }

    // ---- promise 9

    private static void numbersDecrease() {
        for (int removed = 0; removed < 8; removed++) {
            BeamTraining x = withPaths(8);
            for (int path = 0; path < 8; path++) x.setBlock(path, 20 * path);
            due("removePath(" + removed + ")", x.removePath(removed), 7);
            for (int path = 0; path < 7; path++) {
                int before = path < removed ? path : path + 1;
                due("direction at station 0", x.pathDirection(path, 0), before);
                due("direction at station 1", x.pathDirection(path, 1), 63 - before);
                due("extra loss", x.setBlock(path, 0), 20 * before);
            }
            due("behind the last", x.pathDirection(7, 0), BAD_INDEX);
            due("addPath", x.addPath(40, 41, 42), 7);
            due("the new last path", x.pathDirection(7, 0), 40);
            due("the one before it stays", x.pathDirection(6, 0), removed == 7 ? 6 : 7);
        }
    }

    private static void pathsThatAreLeft() {
        BeamTraining x = withPaths(8);
        for (int left = 7; left >= 0; left--) {
            due("removePath of the last", x.removePath(left), left);
            due("pathCount()", x.pathCount(), left);
        }
        due("removePath of none", x.removePath(0), BAD_INDEX);
        due("addPath after that", x.addPath(1, 1, 1), 0);
    }

    // ---- promise 10

    private static int moved(BeamTraining x, int station) {
        int before = x.pathDirection(0, station);
        x.pass(1);
        return turn(x.pathDirection(0, station) - before + 32) - 32;
    }

    private static void setDrift0() {
        range("drift0", -3, 3, (x, v) -> x.setDrift(0, v, 1), x -> moved(x, 0));
    }

    private static void setDrift1() {
        range("drift1", -3, 3, (x, v) -> x.setDrift(0, 1, v), x -> moved(x, 1));
    }

    private static void setDriftAnswers() {
        BeamTraining x = linked();
        due("setDrift to the least", x.setDrift(2, -3, -3), 1);
        due("setDrift to the greatest", x.setDrift(2, 3, 3), 1);
        due("setDrift to none", x.setDrift(2, 0, 0), 1);
        due("setDrift to the same", x.setDrift(2, 0, 0), 1);
    }

    private static void setDriftOutOfRange() {
        refused("drift0 of 4", BAD_VALUE, x -> x.setDrift(2, 4, 0));
        refused("drift0 of -4", BAD_VALUE, x -> x.setDrift(2, -4, 0));
        refused("drift1 of 4", BAD_VALUE, x -> x.setDrift(2, 0, 4));
        refused("drift1 of -4", BAD_VALUE, x -> x.setDrift(2, 0, -4));
    }

    // ---- promise 11

    private static void setBlockExtra() {
        range("the extra loss", 0, 200, (x, v) -> x.setBlock(0, v), x -> x.setBlock(0, 0));
        BeamTraining x = withPaths(1);
        for (int extra : new int[] {200, 1, 0}) {
            x.setBlock(0, extra);
            due("the quality with " + extra, x.quality(0, -1, -1), 40 - extra);
        }
    }

    private static void previousExtraLoss() {
        BeamTraining x = withPaths(2);
        due("setBlock at first", x.setBlock(1, 200), 0);
        due("setBlock after the greatest", x.setBlock(1, 0), 200);
        due("setBlock after none", x.setBlock(1, 0), 0);
        due("setBlock of another path", x.setBlock(0, 1), 0);
    }

    private static void setBlockOutOfRange() {
        refused("an extra loss of -1", BAD_VALUE, x -> x.setBlock(2, -1));
        refused("an extra loss of 201", BAD_VALUE, x -> x.setBlock(2, 201));
    }

    // ---- promises 12 to 15

    private static void setThresholdRange() {
        range("the threshold", -200, 200, BeamTraining::setThreshold, x -> x.setThreshold(0));
    }

    private static void previousThreshold() {
        BeamTraining x = new BeamTraining();
        due("setThreshold at first", x.setThreshold(200), 0);
        due("setThreshold after the greatest", x.setThreshold(-200), 200);
        due("setThreshold after the least", x.setThreshold(-200), -200);
        due("setThreshold after the same", x.setThreshold(0), -200);
    }

    private static void setThresholdOutOfRange() {
        refused("the threshold -201", BAD_VALUE, x -> x.setThreshold(-201));
        refused("the threshold 201", BAD_VALUE, x -> x.setThreshold(201));
    }

    private static void setFadeAmplitude() {
        range("the amplitude", 0, 60, (x, v) -> x.setFade(v, 3), x -> x.setFade(0, 0));
    }

    private static void setFadeX() {
        for (int seed : new int[] {LEAST, LEAST + 1, NONE, -1, 0, 1, MOST - 1, MOST}) {
            BeamTraining x = withPaths(1);
            x.setThreshold(-200);
            due("setFade with x = " + seed, x.setFade(60, seed), 0);
            x.sweep(0);
            due("heard(1, 7)", x.heard(1, 7), 40 + wide(8) - fade(60, seed, 1));
            due("heard(1, 0)", x.heard(1, 0), 40 + wide(0) - fade(60, seed, 8));
        }
    }

    private static void previousAmplitude() {
        BeamTraining x = new BeamTraining();
        due("setFade at first", x.setFade(60, 1), 0);
        due("setFade after the greatest", x.setFade(0, 1), 60);
        due("setFade after none", x.setFade(0, 2), 0);
    }

    private static void setFadeOutOfRange() {
        for (int seed : new int[] {LEAST, 0, MOST}) {
            refused("the amplitude -1", BAD_VALUE, x -> x.setFade(-1, seed));
            refused("the amplitude 61", BAD_VALUE, x -> x.setFade(61, seed));
        }
    }

    private static void setTrackingOnAndOff() {
        for (boolean on : new boolean[] {true, false}) {
            BeamTraining x = linked();
            x.setTracking(on, 4);
            int frames = x.frames();
            x.pass(1);
            due("frames of an interval with tracking " + on, x.frames() - frames, on ? 8 : 2);
        }
    }

    /** The digests of two objects that differ in their hysteresis alone differ by that, times 31 * 31. */
    private static long hysteresisOf(BeamTraining x, boolean on) {
        BeamTraining none = linked();
        none.setTracking(on, 0);
        return (x.digest() - none.digest()) / (31 * 31);
    }

    private static void setTrackingHysteresis() {
        for (boolean on : new boolean[] {true, false}) {
            range("the hysteresis", 0, 40, (x, v) -> x.setTracking(on, v), x -> hysteresisOf(x, on));
        }
    }

    private static void trackingBefore() {
        BeamTraining x = new BeamTraining();
        due("setTracking at first", x.setTracking(false, 0), 0);
        due("setTracking after off", x.setTracking(true, 40), 0);
        due("setTracking after on", x.setTracking(true, 40), 1);
        due("setTracking after on", x.setTracking(false, 40), 1);
        due("setTracking after off", x.setTracking(false, 40), 0);
    }

    private static void setTrackingOutOfRange() {
        for (boolean on : new boolean[] {true, false}) {
            refused("the hysteresis -1", BAD_VALUE, x -> x.setTracking(on, -1));
            refused("the hysteresis 41", BAD_VALUE, x -> x.setTracking(on, 41));
            refused("the hysteresis 41 at first", BAD_VALUE, BeamTraining::new, x -> x.setTracking(on, 41));
        }
    }

    private static void setRecoveryPatience() {
        range("the patience", 1, 9, (x, v) -> x.setRecovery(v, true), x -> x.setRecovery(1, true));
    }

    private static void setRecoveryAutomatic() {
        for (boolean automatic : new boolean[] {true, false}) {
            BeamTraining x = withPaths(1);
            x.setRecovery(1, automatic);
            due("pass(1) with automatic sweeps " + automatic, x.pass(1), automatic ? 1 : 0);
            due("frames()", x.frames(), automatic ? 18 : 0);
        }
    }

    private static void previousPatience() {
        BeamTraining x = new BeamTraining();
        due("setRecovery at first", x.setRecovery(9, false), 2);
        due("setRecovery after the greatest", x.setRecovery(1, true), 9);
        due("setRecovery after the least", x.setRecovery(1, true), 1);
    }

    private static void setRecoveryOutOfRange() {
        for (boolean automatic : new boolean[] {true, false}) {
            refused("the patience 0", BAD_VALUE, x -> x.setRecovery(0, automatic));
            refused("the patience 10", BAD_VALUE, x -> x.setRecovery(10, automatic));
            refused("the patience 0 at first", BAD_VALUE, BeamTraining::new, x -> x.setRecovery(0, automatic));
        }
    }

    private static void undoneSetStation() {
        undone("setStation", x -> x.setStation(1, 2, 3, 4));
    }

    private static void promise6() {
        section("Promise 6: setStation");
        test("It has no present beam then; the link is down, both tables have no entries but NONE, and there are no backups.",
            BoundarySettingsTest::whatASetUpStationLoses);
        test("Undoable.", BoundarySettingsTest::undoneSetStation);
        test("`station`: 0 or 1", () -> eachStation("setStation", (x, v) -> x.setStation(v, 2, 63, 100)));
        test("`sectors`: 2 to 16", BoundarySettingsTest::setStationSectors);
        test("`orientation`: 0 to 63", BoundarySettingsTest::setStationOrientation);
        test("`power`: 0 to 100", BoundarySettingsTest::setStationPower);
        test("Returns the previous number of sectors", BoundarySettingsTest::previousSectors);
        test("BAD_INDEX if there is no such station", () -> noSuchStation("setStation", (x, v) -> x.setStation(v, 8, 0, 40)));
        test("BAD_VALUE if another argument is out of range", BoundarySettingsTest::setStationOutOfRange);
    }

    private static void promise7() {
        section("Promise 7: rotate");
        test("Undoable.", () -> undone("rotate", x -> x.rotate(0, 63)));
        test("`station`: 0 or 1", () -> eachStation("rotate", (x, v) -> x.rotate(v, 63)));
        test("`by`: by how much its orientation increases, -63 to 63", BoundarySettingsTest::rotateBy);
        test("Returns the new orientation", BoundarySettingsTest::rotatesFromEachEnd);
        test("BAD_INDEX if there is no such station", () -> noSuchStation("rotate", (x, v) -> x.rotate(v, 0)));
        test("BAD_VALUE if by is out of range", BoundarySettingsTest::rotateOutOfRange);
    }

    private static void promise8() {
        section("Promise 8: addPath");
        test("Adds a path without extra loss and drifts.", BoundarySettingsTest::withoutExtraLossAndDrifts);
        test("Undoable.", () -> undone("addPath", x -> x.addPath(63, 63, 300)));
        test("`direction0`: its direction at station 0, 0 to 63", BoundarySettingsTest::addPathDirection0);
        test("`direction1`: its direction at station 1, 0 to 63", BoundarySettingsTest::addPathDirection1);
        test("`loss`: 0 to 300", BoundarySettingsTest::addPathLoss);
        test("Returns the number of the path", BoundarySettingsTest::numbersOfNewPaths);
        test("BAD_VALUE if an argument is out of range", BoundarySettingsTest::addPathErrors);
        test("FULL if there are 8 paths", BoundarySettingsTest::noRoomForANinthPath);
    }

    private static void promise9() {
        section("Promise 9: removePath");
        test("The numbers of the paths after it decrease by 1.", BoundarySettingsTest::numbersDecrease);
        test("Undoable.", () -> undone("removePath", x -> x.removePath(2)));
        test("`path`: number of the path", () -> eachPath("removePath", BeamTraining::removePath));
        test("Returns the number of paths that are left", BoundarySettingsTest::pathsThatAreLeft);
        test("BAD_INDEX if there is no such path", () -> noSuchPath("removePath", BeamTraining::removePath));
    }

    private static void promise10() {
        section("Promise 10: setDrift");
        test("Undoable.", () -> undone("setDrift", x -> x.setDrift(2, 3, -3)));
        test("`path`: number of the path", () -> eachPath("setDrift", (x, v) -> x.setDrift(v, 3, -3)));
        test("`drift0`: -3 to 3", BoundarySettingsTest::setDrift0);
        test("`drift1`: -3 to 3", BoundarySettingsTest::setDrift1);
        test("Returns 1", BoundarySettingsTest::setDriftAnswers);
        test("BAD_INDEX if there is no such path", () -> noSuchPath("setDrift", (x, v) -> x.setDrift(v, 0, 0)));
        test("BAD_VALUE if a drift is out of range", BoundarySettingsTest::setDriftOutOfRange);
    }

    private static void promise11() {
        section("Promise 11: setBlock");
        test("Undoable.", () -> undone("setBlock", x -> x.setBlock(2, 200)));
        test("`path`: number of the path", () -> eachPath("setBlock", (x, v) -> x.setBlock(v, 200)));
        test("`extra`: 0 to 200", BoundarySettingsTest::setBlockExtra);
        test("Returns the previous extra loss", BoundarySettingsTest::previousExtraLoss);
        test("BAD_INDEX if there is no such path", () -> noSuchPath("setBlock", (x, v) -> x.setBlock(v, 0)));
        test("BAD_VALUE if extra is out of range", BoundarySettingsTest::setBlockOutOfRange);
    }

    private static void promise12() {
        section("Promise 12: setThreshold");
        test("Undoable.", () -> undone("setThreshold", x -> x.setThreshold(200)));
        test("`threshold`: -200 to 200", BoundarySettingsTest::setThresholdRange);
        test("Returns the previous threshold", BoundarySettingsTest::previousThreshold);
        test("BAD_VALUE if threshold is out of range", BoundarySettingsTest::setThresholdOutOfRange);
    }

    private static void promise13() {
        section("Promise 13: setFade");
        test("Undoable.", () -> undone("setFade", x -> x.setFade(60, MOST)));
        test("`amplitude`: 0 to 60", BoundarySettingsTest::setFadeAmplitude);
        test("`x`: any int", BoundarySettingsTest::setFadeX);
        test("Returns the previous fade amplitude", BoundarySettingsTest::previousAmplitude);
        test("BAD_VALUE if amplitude is out of range", BoundarySettingsTest::setFadeOutOfRange);
    }

    private static void promise14() {
        section("Promise 14: setTracking");
        test("Undoable.", () -> undone("setTracking", x -> x.setTracking(false, 39)));
        test("`on`: true to turn it on, false to turn it off", BoundarySettingsTest::setTrackingOnAndOff);
        test("`hysteresis`: 0 to 40", BoundarySettingsTest::setTrackingHysteresis);
        test("Returns 1 if it was on before, else 0", BoundarySettingsTest::trackingBefore);
        test("BAD_VALUE if hysteresis is out of range", BoundarySettingsTest::setTrackingOutOfRange);
    }

    private static void promise15() {
        section("Promise 15: setRecovery");
        test("Undoable.", () -> undone("setRecovery", x -> x.setRecovery(9, false)));
        test("`patience`: 1 to 9", BoundarySettingsTest::setRecoveryPatience);
        test("`automatic`: true if there are automatic sweeps", BoundarySettingsTest::setRecoveryAutomatic);
        test("Returns the previous patience", BoundarySettingsTest::previousPatience);
        test("BAD_VALUE if patience is out of range", BoundarySettingsTest::setRecoveryOutOfRange);
    }

    public static void main(String[] args) {
        promise6();
        promise7();
        promise8();
        promise9();
        promise10();
        promise11();
        promise12();
        promise13();
        promise14();
        promise15();
        end();
    }
}
