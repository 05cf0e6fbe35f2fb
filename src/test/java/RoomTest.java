import java.lang.management.ManagementFactory;

/**
 * All calls of one run live in one room: some 600,000 objects and arrays, 7.3 million fields and elements. Here 512 of
 * the dearest calls to one object are measured: the bytes that they take stay far below what the room's objects need.
 */
public final class RoomTest {
    private static final long ROOM_BYTES = 4L * 1000 * 1000;

    private static long allocated() {
        var threads = (com.sun.management.ThreadMXBean) ManagementFactory.getThreadMXBean();
        return threads.getThreadAllocatedBytes(Thread.currentThread().getId());
    }

    private static BeamTraining dearest() {
        BeamTraining x = new BeamTraining();
        x.setStation(0, 16, 0, 100);
        x.setStation(1, 16, 0, 100);
        for (int path = 0; path < 8; path++) {
            x.addPath(8 * path, 8 * path, 100);
            x.setDrift(path, 3, -3);
        }
        x.setTracking(true, 0);
        x.setRecovery(1, true);
        x.setFade(60, 1);
        x.setThreshold(120);
        x.sweep(0);
        for (char letter : "path 1 2 3 drift 1 1;fade 60;threshold -200".toCharArray()) x.type(letter);
        return x;
    }

    private static long bytesOfARun() {
        long before = allocated();
        BeamTraining x = dearest();
        for (int call = 67; call <= 512; call++) {
            switch (call % 8) {
                case 0: x.outage(100); break;
                case 1: x.pass(50); break;
                case 2: x.survey(1); break;
                case 3: x.sweep(1); break;
                case 4: x.refine(0); break;
                case 5: x.textFault(); break;
                case 6: x.load(); break;
                default: x.undo(); break;
            }
        }
        return allocated() - before;
    }

    public static void main(String[] args) {
        bytesOfARun();
        long bytes = bytesOfARun();
        boolean fits = bytes < ROOM_BYTES;
        System.out.println("512 calls take " + bytes + " bytes" + (fits ? "" : ": more than there is room for"));
        if (!fits) System.exit(1);
    }
}
