/** Qualities, shares of power, and how long a link lasts: quality to outage (promises 33 to 38). */
public final class QualityTest {
    private static final int NONE = -100000, BAD_INDEX = -100001, BAD_VALUE = -100002;

    private static int wrong = 0;

    private static void due(String call, long got, long want) {
        if (got != want) {
            wrong++;
            System.out.println(call + " answered " + got + ", due is " + want);
        }
    }

    private static void qualitiesOfOnePath() {
        BeamTraining x = new BeamTraining();
        due("quality(0, -1, -1)", x.quality(0, -1, -1), NONE);
        due("quality(2, -1, -1)", x.quality(2, -2, -1), BAD_INDEX);
        due("quality(-1, -1, -1)", x.quality(-1, -1, -1), BAD_INDEX);
        due("quality(0, -2, -1)", x.quality(0, -2, -1), BAD_VALUE);
        due("quality(0, 48, -1)", x.quality(0, 48, -1), BAD_VALUE);
        due("quality(0, -1, 48)", x.quality(0, -1, 48), BAD_VALUE);
        due("quality(0, -1, NONE)", x.quality(0, -1, NONE), BAD_VALUE);
        x.setStation(0, 2, 0, 100);
        x.setStation(1, 16, 0, 7);
        x.addPath(3, 60, 0);
        due("quality(0, 0, 0)", x.quality(0, 0, 0), 100 + 27 + 20);
        due("quality(1, 0, 0)", x.quality(1, 0, 0), 7 + 27 + 20);
        due("quality(0, 11, 95)", x.quality(0, 11, 95), 100 - 40 + 48 - 12);
        due("quality(0, 12, 0)", x.quality(0, 12, 0), BAD_VALUE);
        due("quality(0, 0, 96)", x.quality(0, 0, 96), BAD_VALUE);
        due("quality(1, -1, -1)", x.quality(1, -1, -1), 7);
        for (int extra = 0; extra <= 200; extra++) {
            x.setBlock(0, extra);
            due("quality with the extra loss " + extra, x.quality(0, 6, 93), 100 + 45 + 48 - extra);
            due("quality with the extra loss " + extra, x.quality(1, 1, 8), 7 - 40 - 40 - extra);
        }
    }

    /** Equal paths: n of them have n times the power; the greatest level for 3 is 19 and for 7 is 33 steps above. */
    private static void qualitiesOfManyPaths() {
        int[] above = {0, 12, 19, 24, 27, 31, 33, 36};
        for (int loss = 4; loss <= 292; loss += 12) {
            BeamTraining x = new BeamTraining();
            for (int n = 0; n < 8; n++) {
                x.addPath(20, 50, loss);
                due("quality of " + (n + 1) + " paths", x.quality(0, -1, -1), 40 - loss + above[n]);
            }
        }
        BeamTraining x = new BeamTraining();
        for (int n = 0; n < 8; n++) x.addPath(20, 50, 250);
        due("the float sum of eight times 1.4142135 is a bit less than its eightfold", x.quality(0, -1, -1), -175);
    }

    /** Level 0 and level -1 have 1 and 0.94387424: together 1.94387424, between the levels 11 and 12. */
    private static void qualityOfTwoLevels() {
        BeamTraining x = new BeamTraining();
        x.addPath(0, 0, 40);
        x.addPath(0, 0, 41);
        due("quality(0, -1, -1)", x.quality(0, -1, -1), 11);
        x.setBlock(1, 100);
        due("a weak path adds no step", x.quality(0, -1, -1), 0);
        x.setBlock(0, 200);
        due("the first path is weaker now", x.quality(0, -1, -1), -101);
    }

    private static void bestPairs() {
        BeamTraining x = new BeamTraining();
        due("bestPair()", x.bestPair(), NONE);
        x.addPath(40, 60, 80);
        due("of the sectors 7 and 0 on both sides the lower one", x.bestPair(), 16 * 5 + 0);
        x.setStation(0, 16, 4, 40);
        x.setStation(1, 16, 0, 40);
        due("bestPair() of finer sectors", x.bestPair(), 16 * 9 + 15);
        x.setStation(0, 8, 36, 40);
        x.setStation(1, 8, 56, 40);
        due("of equal pairs the lowest beams", x.bestPair(), 0);
        x.addPath(8, 24, 80);
        x.addPath(24, 8, 80);
        x.setStation(0, 8, 0, 40);
        x.setStation(1, 8, 0, 40);
        x.removePath(0);
        due("of equal pairs the lowest beam of station 0", x.bestPair(), 16 + 3);
        due("quality of the other one", x.quality(0, 3, 1), x.quality(0, 1, 3));
        x.setStation(0, 8, 0, 0);
        x.setStation(1, 8, 0, 100);
        due("the power changes no order", x.bestPair(), 16 + 3);
    }

    private static void shortfalls() {
        BeamTraining x = new BeamTraining();
        due("shortfall() of nothing", x.shortfall(), NONE);
        x.addPath(8, 40, 60);
        due("shortfall() without beams", x.shortfall(), NONE);
        x.select(0, 0);
        due("shortfall() with one beam", x.shortfall(), NONE);
        x.select(1, 4);
        due("shortfall()", x.shortfall(), 128);
        x.select(0, 1);
        due("shortfall()", x.shortfall(), 64);
        x.select(1, 5);
        due("shortfall() of the best pair", x.shortfall(), 0);
        x.select(0, 8 + 5 + 2);
        due("shortfall() of a narrow beam", x.shortfall(), -12);
        x.select(1, 8 + 25 + 2);
        due("shortfall() of both", x.shortfall(), -24);
        x.setStation(0, 16, 0, 40);
        x.select(0, 14);
        due("shortfall() of the opposite sector", x.shortfall(), 76 - 12);
        x.select(0, 2);
        x.select(1, 5);
        due("shortfall() of the best of more sectors", x.shortfall(), 0);
        x.setStation(0, 16, 12, 40);
        x.select(0, 15);
        due("shortfall() of the best sector 15", x.shortfall(), 0);
        x.setStation(0, 8, 0, 40);
        x.select(0, 15);
        x.select(1, 35);
        x.setStation(1, 8, 0, 90);
        due("shortfall() after setStation", x.shortfall(), NONE);
        x.select(1, 5);
        due("from station 0 to station 1", x.shortfall(), -12);
        x.removePath(0);
        due("shortfall() without paths", x.shortfall(), NONE);
    }

    /** Two sectors each and one path along the sectors 0: levels 72, -4, -4, -80, so the powers are 2^6, 2^-1/3 .. */
    private static void shares() {
        BeamTraining x = new BeamTraining();
        due("share(0, 0) without paths", x.share(0, 0), NONE);
        due("shareBits(0, 0) without paths", x.shareBits(0, 0), NONE);
        due("share(8, 0)", x.share(8, 0), BAD_INDEX);
        due("share(0, 8)", x.share(0, 8), BAD_INDEX);
        due("share(-1, 0)", x.share(-1, 0), BAD_INDEX);
        due("share(0, -1)", x.share(0, -1), BAD_INDEX);
        due("shareBits(8, 0)", x.shareBits(8, 0), BAD_INDEX);
        due("shareBits(0, 8)", x.shareBits(0, 8), BAD_INDEX);
        due("shareBits(-1, 0)", x.shareBits(-1, 0), BAD_INDEX);
        due("shareBits(0, -1)", x.shareBits(0, -1), BAD_INDEX);
        x.setStation(0, 2, 0, 40);
        x.setStation(1, 2, 0, 40);
        x.addPath(0, 0, 40);
        float best = 64.0f;
        float side = 1.587401f * 0.5f;
        float back = 1.2599211f * 0.0078125f;
        float sum = 0.0f + best + side + side + back;
        due("share(0, 0)", x.share(0, 0), (int) (best / sum * 1000.0f));
        due("share(0, 0)", x.share(0, 0), 975);
        due("share(0, 1)", x.share(0, 1), 12);
        due("share(1, 0)", x.share(1, 0), 12);
        due("share(1, 1)", x.share(1, 1), 0);
        due("shareBits(0, 0)", x.shareBits(0, 0), Float.floatToIntBits(best / sum));
        due("shareBits(0, 1)", x.shareBits(0, 1), Float.floatToIntBits(side / sum));
        due("shareBits(1, 0)", x.shareBits(1, 0), Float.floatToIntBits(side / sum));
        due("shareBits(1, 1)", x.shareBits(1, 1), Float.floatToIntBits(back / sum));
        due("share(2, 0)", x.share(2, 0), BAD_INDEX);
        due("share(0, 2)", x.share(0, 2), BAD_INDEX);
        x.addPath(0, 0, 40);
        due("shareBits of twice the power", x.shareBits(0, 1), Float.floatToIntBits(side / sum));
    }

    private static void sharesOfEqualPairs() {
        BeamTraining x = new BeamTraining();
        x.setStation(0, 2, 16, 40);
        x.setStation(1, 2, 48, 40);
        x.addPath(0, 0, 300);
        due("share of four equal pairs", x.share(1, 0), 250);
        due("shareBits of four equal pairs", x.shareBits(1, 1), 0x3e800000);
        x.setStation(1, 16, 0, 40);
        x.setStation(0, 16, 0, 100);
        x.setBlock(0, 200);
        due("share of a pair far off", x.share(8, 8), 0);
        float sum = 0.0f;
        for (int i = 0; i < 16; i++) for (int j = 0; j < 16; j++) sum += power(100 - 500 + gain(i) + gain(j));
        for (int i = 0; i < 16; i++) {
            for (int j = 0; j < 16; j++) {
                float share = power(100 - 500 + gain(i) + gain(j)) / sum;
                due("share(" + i + ", " + j + ")", x.share(i, j), (int) (share * 1000.0f));
                due("shareBits(" + i + ", " + j + ")", x.shareBits(i, j), Float.floatToIntBits(share));
            }
        }
    }

    /** The gain of sector k of 16 in the direction 0. */
    private static int gain(int k) {
        int angle = 4 * Math.min(k, 16 - k);
        return Math.max(-40, 36 - angle * angle);
    }

    private static float power(int level) {
        float[] steps = {1.0f, 1.0594631f, 1.122462f, 1.1892071f, 1.2599211f, 1.3348398f, 1.4142135f, 1.4983071f,
            1.587401f, 1.6817929f, 1.7817974f, 1.8877486f};
        return Math.scalb(steps[Math.floorMod(level, 12)], Math.floorDiv(level, 12));
    }

    private static void outages() {
        BeamTraining x = new BeamTraining();
        due("outage(0)", x.outage(0), BAD_VALUE);
        due("outage(101)", x.outage(101), BAD_VALUE);
        due("outage(-1)", x.outage(-1), BAD_VALUE);
        due("outage(1) of no link", x.outage(1), 0);
        due("outage(100) of no link", x.outage(100), 0);
        x.addPath(0, 0, 40);
        x.sweep(0);
        due("outage(100) of a good link", x.outage(100), NONE);
        x.setRecovery(5, false);
        x.setThreshold(200);
        due("outage(4)", x.outage(4), NONE);
        due("outage(5)", x.outage(5), 5);
        due("outage(100)", x.outage(100), 5);
        long before = x.digest();
        due("outage(100) again", x.outage(100), 5);
        due("the state stays", x.digest(), before);
        x.pass(2);
        due("outage(100) after two", x.outage(100), 3);
        x.pass(3);
        due("outage(1) when it is down", x.outage(1), 0);
    }

    /** The path drifts out of both beams; automatic sweeps bring the link up again within the interval. */
    private static void outageOfDrifts() {
        BeamTraining x = new BeamTraining();
        x.addPath(0, 0, 40);
        x.sweep(0);
        x.setDrift(0, 1, 0);
        x.setRecovery(1, false);
        int lasts = x.outage(100);
        due("outage(100)", lasts, 9);
        due("pass(8)", x.pass(8), 1);
        due("pass(1)", x.pass(1), 0);
        x.undo();
        x.setRecovery(1, true);
        due("an automatic sweep in the same interval", x.outage(100), NONE);
        due("frames() are untouched", x.frames(), 18 + 16);
    }

    public static void main(String[] args) {
        qualitiesOfOnePath();
        qualitiesOfManyPaths();
        qualityOfTwoLevels();
        bestPairs();
        shortfalls();
        shares();
        sharesOfEqualPairs();
        outages();
        outageOfDrifts();
        System.out.println(wrong == 0 ? "all answers are as due" : wrong + " answers are not as due");
        if (wrong != 0) System.exit(1);
    }
}
