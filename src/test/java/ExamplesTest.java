/** The four examples of the document's description. */
public final class ExamplesTest {
    private static int wrong = 0;

    private static void due(String call, long got, long want) {
        if (got != want) {
            wrong++;
            System.out.println(call + " answered " + got + ", due is " + want);
        }
    }

    private static void bestPairAndSweep() {
        BeamTraining x = new BeamTraining();
        due("addPath(8, 40, 60)", x.addPath(8, 40, 60), 0);
        due("quality(0, -1, -1)", x.quality(0, -1, -1), -20);
        due("quality(0, 1, 5)", x.quality(0, 1, 5), 52);
        due("bestPair()", x.bestPair(), 21);
        due("sweep(0)", x.sweep(0), 0);
        due("beam(0)", x.beam(0), 1);
        due("beam(1)", x.beam(1), 5);
        due("heard(1, 1)", x.heard(1, 1), 16);
        due("frames()", x.frames(), 18);
    }

    private static void blockedPath() {
        BeamTraining x = new BeamTraining();
        due("addPath(0, 0, 40)", x.addPath(0, 0, 40), 0);
        due("sweep(1)", x.sweep(1), 0);
        due("setBlock(0, 200)", x.setBlock(0, 200), 0);
        due("outage(10)", x.outage(10), 2);
        due("pass(2)", x.pass(2), 0);
        due("isUp()", x.isUp(), 0);
        due("eventKind(0)", x.eventKind(0), 2);
    }

    private static void withoutPaths() {
        BeamTraining x = new BeamTraining();
        due("sweep(0)", x.sweep(0), 1);
        due("refine(0)", x.refine(0), -100003);
        due("bestPair()", x.bestPair(), -100000);
        due("gain(0, 0, 4)", x.gain(0, 0, 4), 20);
        due("gain(0, 10, 4)", x.gain(0, 10, 4), 0);
        due("direction(0, 13)", x.direction(0, 13), 6);
        due("select(0, 48)", x.select(0, 48), -100002);
    }

    private static void text() {
        BeamTraining x = new BeamTraining();
        due("type(112)", x.type(112), 1);
        due("type(97)", x.type(97), 2);
        due("type(116)", x.type(116), 3);
        due("type(104)", x.type(104), 4);
        due("type(32)", x.type(32), 5);
        due("type(54)", x.type(54), 6);
        due("type(52)", x.type(52), 7);
        due("textFault()", x.textFault(), 5);
        due("load()", x.load(), -100003);
    }

    public static void main(String[] args) {
        bestPairAndSweep();
        blockedPath();
        withoutPaths();
        text();
        System.out.println(wrong == 0 ? "all answers are as due" : wrong + " answers are not as due");
        if (wrong != 0) System.exit(1);
    }
}
