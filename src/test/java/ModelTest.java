import java.util.ArrayList;
import java.util.Comparator;
import java.util.List;
import java.util.Random;

/**
 * Long runs of calls, each answered also by a second, slow model that is written in another way from the
 * document's words alone. The calls come from seeds, so that each run of this test makes the same ones.
 */
public final class ModelTest {
    private static final int NONE = -100000, BAD_INDEX = -100001, BAD_VALUE = -100002, BAD_STATE = -100003, FULL = -100004;
    private static final int RUNS = 500;
    private static final int CALLS = 512;

    private static int wrong = 0;

    // ---- the model

    private static final class Fault extends RuntimeException {
        private static final long serialVersionUID = 1L;
        final int position;

        Fault(int position) {
            this.position = position;
        }
    }

    private record Pair(int i, int j, int measured) {
    }

    private static final class World {
        int[][] stations = {{8, 0, 40, NONE}, {8, 0, 40, NONE}};
        List<List<Integer>> tables = new ArrayList<>(List.of(noEntries(8), noEntries(8)));
        List<int[]> paths = new ArrayList<>();
        List<int[]> backups = new ArrayList<>();
        List<int[]> events = new ArrayList<>();
        boolean up, tracking, automatic;
        int failures, interval, frames, time, x = 1, threshold, fade, hysteresis = 4, patience = 2;

        World copy() {
            World w = new World();
            w.stations = new int[][] {stations[0].clone(), stations[1].clone()};
            w.tables = new ArrayList<>(List.of(new ArrayList<>(tables.get(0)), new ArrayList<>(tables.get(1))));
            for (int[] path : paths) w.paths.add(path.clone());
            for (int[] backup : backups) w.backups.add(backup.clone());
            for (int[] event : events) w.events.add(event.clone());
            w.up = up;
            w.tracking = tracking;
            w.automatic = automatic;
            w.failures = failures;
            w.interval = interval;
            w.frames = frames;
            w.time = time;
            w.x = x;
            w.threshold = threshold;
            w.fade = fade;
            w.hysteresis = hysteresis;
            w.patience = patience;
            return w;
        }

        static List<Integer> noEntries(int many) {
            List<Integer> entries = new ArrayList<>();
            for (int k = 0; k < many; k++) entries.add(NONE);
            return entries;
        }

        void setStation(int s, int sectors, int orientation, int power) {
            stations[s] = new int[] {sectors, orientation, power, NONE};
            up = false;
            tables = new ArrayList<>(List.of(noEntries(stations[1][0]), noEntries(stations[0][0])));
            backups.clear();
        }

        /** The sector of a beam and its f; a third number tells whether it is narrow. */
        int[] parts(int s, int beam) {
            int sectors = stations[s][0];
            for (int k = 0; k < sectors; k++) {
                if (beam == k) return new int[] {k, 0, 0};
                for (int f = -2; f <= 2; f++) if (beam == sectors + 5 * k + f + 2) return new int[] {k, f, 1};
            }
            return null;
        }

        int direction(int s, int beam) {
            int[] parts = parts(s, beam);
            int d = stations[s][1] + 64 * parts[0] / stations[s][0] + parts[1];
            return ((d % 64) + 64) % 64;
        }

        static int angle(int a, int b) {
            return Math.min(((a - b) % 64 + 64) % 64, ((b - a) % 64 + 64) % 64);
        }

        int gain(int s, int beam, int toward) {
            if (beam == -1) return 0;
            int d = angle(direction(s, beam), toward);
            return Math.max(-40, parts(s, beam)[2] == 0 ? 36 - d * d : 48 - 3 * d * d);
        }

        static final float[] C = {1.0f, 1.0594631f, 1.122462f, 1.1892071f, 1.2599211f, 1.3348398f, 1.4142135f,
            1.4983071f, 1.587401f, 1.6817929f, 1.7817974f, 1.8877486f};

        static float power(int q) {
            int mod = q;
            int div = 0;
            while (mod < 0) {
                mod += 12;
                div--;
            }
            while (mod > 11) {
                mod -= 12;
                div++;
            }
            return Math.scalb(C[mod], div);
        }

        float received(int from, int b0, int b1) {
            float sum = 0.0f;
            for (int[] p : paths) {
                sum += power(stations[from][2] + gain(0, b0, p[0]) + gain(1, b1, p[1]) - p[2] - p[3]);
            }
            return sum;
        }

        int quality(int from, int b0, int b1) {
            if (paths.isEmpty()) return NONE;
            float r = received(from, b0, b1);
            int q = 300;
            while (power(q) > r) q--;
            return q;
        }

        /** Measured quality if heard, else null. */
        Integer frame(int from, int sendBeam, int receiveBeam, int micros) {
            frames++;
            time += micros;
            x = x * 1664525 + 1013904223;
            if (paths.isEmpty()) return null;
            int q = from == 0 ? quality(0, sendBeam, receiveBeam) : quality(1, receiveBeam, sendBeam);
            int measured = q - (x >>> 8) % (fade + 1);
            return measured >= threshold ? measured : null;
        }

        void event(int kind, int value) {
            events.add(new int[] {kind, value, interval});
            if (events.size() > 20) events.remove(0);
        }

        int best(List<Integer> table) {
            int best = -1;
            for (int k = 0; k < table.size(); k++) {
                if (table.get(k) != NONE && (best < 0 || table.get(k) >= table.get(best))) best = k;
            }
            return best;
        }

        void sweepFrames(int sender) {
            List<Integer> table = noEntries(stations[sender][0]);
            for (int k = table.size() - 1; k >= 0; k--) {
                Integer m = frame(sender, k, -1, 16);
                if (m != null) table.set(k, m);
            }
            tables.set(1 - sender, table);
        }

        int sweepResult(int i) {
            int r = 1 - i;
            sweepFrames(i);
            int bestI = best(tables.get(r));
            if (bestI < 0) return 1;
            sweepFrames(r);
            int bestR = best(tables.get(i));
            if (bestR < 0) return 2;
            stations[i][3] = bestI;
            if (frame(i, stations[i][3], -1, 9) == null) return 3;
            stations[r][3] = bestR;
            if (frame(r, stations[r][3], -1, 9) == null) return 4;
            return 0;
        }

        int sweep(int i) {
            int result = sweepResult(i);
            up = result == 0;
            failures = 0;
            event(up ? 1 : 5, up ? i : result);
            return result;
        }

        void refine(int s) {
            int sectors = stations[s][0];
            int k = parts(s, stations[s][3])[0];
            List<Integer> around = new ArrayList<>();
            for (int sector : new int[] {(k + sectors - 1) % sectors, k, (k + 1) % sectors}) {
                if (!around.contains(sector)) around.add(sector);
            }
            List<Integer> beams = new ArrayList<>(List.of(stations[s][3]));
            for (int sector : around) for (int f = -2; f <= 2; f++) beams.add(sectors + 5 * sector + f + 2);
            Integer bestMeasured = null;
            int best = 0;
            for (int beam : beams) {
                Integer m = frame(s, beam, stations[1 - s][3], 4);
                if (m != null && (bestMeasured == null || m > bestMeasured)) {
                    bestMeasured = m;
                    best = beam;
                }
            }
            if (bestMeasured != null && frame(1 - s, stations[1 - s][3], stations[s][3], 9) != null) stations[s][3] = best;
        }

        boolean apart(int s, int beam, int other, int d) {
            return angle(direction(s, beam), direction(s, other)) >= d;
        }

        void survey(int d) {
            List<Pair> heard = new ArrayList<>();
            for (int i = 0; i < stations[0][0]; i++) {
                for (int j = 0; j < stations[1][0]; j++) {
                    Integer m = frame(0, i, j, 4);
                    if (m != null) heard.add(new Pair(i, j, m));
                }
            }
            heard.sort(Comparator.comparingInt((Pair p) -> -p.measured()).thenComparingInt(Pair::i).thenComparingInt(Pair::j));
            backups.clear();
            for (Pair p : heard) {
                boolean taken = backups.size() < 3;
                if (stations[0][3] != NONE) taken &= apart(0, p.i(), stations[0][3], d);
                if (stations[1][3] != NONE) taken &= apart(1, p.j(), stations[1][3], d);
                for (int[] b : backups) taken &= apart(0, p.i(), b[0], d) && apart(1, p.j(), b[1], d);
                if (taken) backups.add(new int[] {p.i(), p.j(), p.measured()});
            }
        }

        int neighbour(int s, int beam, int by) {
            int sectors = stations[s][0];
            int[] parts = parts(s, beam);
            int beside = (parts[0] + by + sectors) % sectors;
            if (parts[2] == 0) return beside;
            int f = parts[1] + by;
            if (f == -3) return sectors + 5 * beside + 4;
            if (f == 3) return sectors + 5 * beside;
            return sectors + 5 * parts[0] + f + 2;
        }

        void track(int s) {
            int beam = stations[s][3];
            int other = stations[1 - s][3];
            Integer own = frame(s, beam, other, 2);
            Integer low = frame(s, neighbour(s, beam, -1), other, 2);
            Integer high = frame(s, neighbour(s, beam, 1), other, 2);
            if (low == null && high == null) return;
            boolean takeHigh = low == null || high != null && high > low;
            int better = takeHigh ? high : low;
            if (own == null || better >= own + hysteresis) {
                stations[s][3] = neighbour(s, beam, takeHigh ? 1 : -1);
                event(4, s);
            }
        }

        void data() {
            Integer one = frame(0, stations[0][3], stations[1][3], 2);
            Integer two = frame(1, stations[1][3], stations[0][3], 2);
            if (one != null && two != null) {
                failures = 0;
                return;
            }
            failures++;
            if (failures < patience) return;
            failures = 0;
            for (int b = 0; b < backups.size(); b++) {
                int[] backup = backups.get(b);
                if (frame(0, backup[0], backup[1], 4) != null) {
                    stations[0][3] = backup[0];
                    stations[1][3] = backup[1];
                    backups.remove(b);
                    event(3, b);
                    return;
                }
            }
            up = false;
            event(2, 0);
        }

        void pass() {
            interval++;
            for (int[] p : paths) {
                p[0] = (p[0] + p[4] + 64) % 64;
                p[1] = (p[1] + p[5] + 64) % 64;
            }
            if (up && tracking) {
                track(0);
                track(1);
            }
            if (up) data();
            if (!up && automatic) sweep(0);
        }

        int bestPair() {
            if (paths.isEmpty()) return NONE;
            int best = -1;
            for (int i = 0; i < stations[0][0]; i++) {
                for (int j = 0; j < stations[1][0]; j++) {
                    if (best < 0 || quality(0, i, j) > quality(0, best / 16, best % 16)) best = 16 * i + j;
                }
            }
            return best;
        }

        float share(int a, int b) {
            float sum = 0.0f;
            for (int i = 0; i < stations[0][0]; i++) for (int j = 0; j < stations[1][0]; j++) sum += received(0, i, j);
            return received(0, a, b) / sum;
        }

        long digest() {
            List<Integer> all = new ArrayList<>(List.of(up ? 1 : 0, failures, interval, frames, time, x));
            for (int s = 0; s < 2; s++) {
                for (int v : stations[s]) all.add(v);
                all.addAll(tables.get(s));
            }
            for (int[] p : paths) for (int v : p) all.add(v);
            for (int[] b : backups) for (int v : b) all.add(v);
            for (int[] e : events) for (int v : e) all.add(v);
            all.addAll(List.of(threshold, fade, tracking ? 1 : 0, hysteresis, patience, automatic ? 1 : 0));
            long h = 17;
            for (int v : all) h = 31 * h + v;
            return h;
        }
    }

    /** Reads a text by its grammar; throws its fault. */
    private static final class Reader {
        final List<String> words = new ArrayList<>();
        final List<Integer> places = new ArrayList<>();
        final int end;
        int next = 0;
        final World made = new World();

        Reader(String text) {
            end = text.length();
            int p = 0;
            while (p < end) {
                String rest = text.substring(p);
                String token = rest.replaceFirst("(?s)^([a-z]+|[0-9]+|.).*$", "$1");
                if (!token.equals(" ")) {
                    words.add(token);
                    places.add(p);
                }
                p += token.length();
            }
        }

        String peek() {
            return next < words.size() ? words.get(next) : "";
        }

        Fault fault() {
            return new Fault(next < words.size() ? places.get(next) : end);
        }

        int number(int sign, int low, int high) {
            if (!peek().matches("[0-9]{1,3}")) throw fault();
            int value = sign * Integer.parseInt(peek());
            if (value < low || value > high) throw fault();
            next++;
            return value;
        }

        int signed(int low, int high) {
            if (!peek().equals("-")) return number(1, low, high);
            next++;
            return number(-1, low, high);
        }

        World scenario() {
            item();
            while (next < words.size()) {
                if (!peek().equals(";")) throw fault();
                next++;
                item();
            }
            return made;
        }

        void item() {
            switch (peek()) {
                case "station" -> {
                    next++;
                    int s = number(1, 0, 1);
                    int sectors = number(1, 2, 16);
                    int orientation = number(1, 0, 63);
                    made.setStation(s, sectors, orientation, number(1, 0, 100));
                }
                case "path" -> {
                    if (made.paths.size() == 8) throw fault();
                    next++;
                    int[] path = {number(1, 0, 63), number(1, 0, 63), number(1, 0, 300), 0, 0, 0};
                    if (peek().equals("drift")) {
                        next++;
                        path[4] = signed(-3, 3);
                        path[5] = signed(-3, 3);
                    }
                    made.paths.add(path);
                }
                case "threshold" -> {
                    next++;
                    made.threshold = signed(-200, 200);
                }
                case "fade" -> {
                    next++;
                    made.fade = number(1, 0, 60);
                }
                case "patience" -> {
                    next++;
                    made.patience = number(1, 1, 9);
                }
                default -> throw fault();
            }
        }
    }

    private static final class Model {
        World now = new World();
        final List<World> saved = new ArrayList<>();
        String text = "";

        static boolean in(int v, int low, int high) {
            return low <= v && v <= high;
        }

        void save() {
            saved.add(now.copy());
            if (saved.size() > 6) saved.remove(0);
        }

        boolean path(int p) {
            return in(p, 0, now.paths.size() - 1);
        }

        boolean beam(int s, int b) {
            return in(b, 0, 6 * now.stations[s][0] - 1);
        }

        int fault() {
            try {
                new Reader(text).scenario();
                return NONE;
            } catch (Fault f) {
                return f.position;
            }
        }

        /** What a call is due to answer; c holds the arguments. */
        long answer(String name, int[] c) {
            switch (name) {
                case "type":
                    if (!in(c[0], 0, 255)) return BAD_VALUE;
                    if (text.length() == 120) return FULL;
                    text += (char) c[0];
                    return text.length();
                case "clearText":
                    int length = text.length();
                    text = "";
                    return length;
                case "textFault":
                    return fault();
                case "load":
                    if (fault() != NONE) return BAD_STATE;
                    save();
                    now = new Reader(text).scenario();
                    return now.paths.size();
                case "undo":
                    if (saved.isEmpty()) return BAD_STATE;
                    now = saved.remove(saved.size() - 1);
                    return saved.size();
                default:
                    return name.startsWith("set") || name.endsWith("Path") || name.equals("rotate")
                        ? setting(name, c) : doing(name, c);
            }
        }

        long setting(String name, int[] c) {
            switch (name) {
                case "setStation": {
                    if (!in(c[0], 0, 1)) return BAD_INDEX;
                    if (!in(c[1], 2, 16) || !in(c[2], 0, 63) || !in(c[3], 0, 100)) return BAD_VALUE;
                    save();
                    int before = now.stations[c[0]][0];
                    now.setStation(c[0], c[1], c[2], c[3]);
                    return before;
                }
                case "rotate":
                    if (!in(c[0], 0, 1)) return BAD_INDEX;
                    if (!in(c[1], -63, 63)) return BAD_VALUE;
                    save();
                    return now.stations[c[0]][1] = (now.stations[c[0]][1] + c[1] + 64) % 64;
                case "addPath":
                    if (!in(c[0], 0, 63) || !in(c[1], 0, 63) || !in(c[2], 0, 300)) return BAD_VALUE;
                    if (now.paths.size() == 8) return FULL;
                    save();
                    now.paths.add(new int[] {c[0], c[1], c[2], 0, 0, 0});
                    return now.paths.size() - 1;
                case "removePath":
                    if (!path(c[0])) return BAD_INDEX;
                    save();
                    now.paths.remove(c[0]);
                    return now.paths.size();
                case "setDrift":
                    if (!path(c[0])) return BAD_INDEX;
                    if (!in(c[1], -3, 3) || !in(c[2], -3, 3)) return BAD_VALUE;
                    save();
                    now.paths.get(c[0])[4] = c[1];
                    now.paths.get(c[0])[5] = c[2];
                    return 1;
                case "setBlock": {
                    if (!path(c[0])) return BAD_INDEX;
                    if (!in(c[1], 0, 200)) return BAD_VALUE;
                    save();
                    int before = now.paths.get(c[0])[3];
                    now.paths.get(c[0])[3] = c[1];
                    return before;
                }
                case "setThreshold": {
                    if (!in(c[0], -200, 200)) return BAD_VALUE;
                    save();
                    int before = now.threshold;
                    now.threshold = c[0];
                    return before;
                }
                case "setFade": {
                    if (!in(c[0], 0, 60)) return BAD_VALUE;
                    save();
                    int before = now.fade;
                    now.fade = c[0];
                    now.x = c[1];
                    return before;
                }
                case "setTracking": {
                    if (!in(c[1], 0, 40)) return BAD_VALUE;
                    save();
                    int before = now.tracking ? 1 : 0;
                    now.tracking = c[0] == 1;
                    now.hysteresis = c[1];
                    return before;
                }
                default: {
                    if (!in(c[0], 1, 9)) return BAD_VALUE;
                    save();
                    int before = now.patience;
                    now.patience = c[0];
                    now.automatic = c[1] == 1;
                    return before;
                }
            }
        }

        long doing(String name, int[] c) {
            switch (name) {
                case "sweep":
                    if (!in(c[0], 0, 1)) return BAD_INDEX;
                    save();
                    return now.sweep(c[0]);
                case "refine":
                    if (!in(c[0], 0, 1)) return BAD_INDEX;
                    if (!now.up) return BAD_STATE;
                    save();
                    now.refine(c[0]);
                    return now.stations[c[0]][3];
                case "survey":
                    if (!in(c[0], 1, 32)) return BAD_VALUE;
                    save();
                    now.survey(c[0]);
                    return now.backups.size();
                case "select":
                    if (!in(c[0], 0, 1)) return BAD_INDEX;
                    if (!beam(c[0], c[1])) return BAD_VALUE;
                    save();
                    int before = now.stations[c[0]][3];
                    now.stations[c[0]][3] = c[1];
                    return before;
                case "pass":
                    if (!in(c[0], 1, 50)) return BAD_VALUE;
                    save();
                    for (int n = 0; n < c[0]; n++) now.pass();
                    return now.up ? 1 : 0;
                case "outage":
                    if (!in(c[0], 1, 100)) return BAD_VALUE;
                    if (!now.up) return 0;
                    World later = now.copy();
                    for (int n = 1; n <= c[0]; n++) {
                        later.pass();
                        if (!later.up) return n;
                    }
                    return NONE;
                default:
                    return asking(name, c);
            }
        }

        long asking(String name, int[] c) {
            switch (name) {
                case "isUp": return now.up ? 1 : 0;
                case "beam": return in(c[0], 0, 1) ? now.stations[c[0]][3] : BAD_INDEX;
                case "direction":
                    if (!in(c[0], 0, 1)) return BAD_INDEX;
                    return beam(c[0], c[1]) ? now.direction(c[0], c[1]) : BAD_VALUE;
                case "gain":
                    if (!in(c[0], 0, 1)) return BAD_INDEX;
                    if (c[1] != -1 && !beam(c[0], c[1]) || !in(c[2], 0, 63)) return BAD_VALUE;
                    return now.gain(c[0], c[1], c[2]);
                case "heard":
                    if (!in(c[0], 0, 1) || !in(c[1], 0, now.stations[1 - c[0]][0] - 1)) return BAD_INDEX;
                    return now.tables.get(c[0]).get(c[1]);
                case "failures": return now.failures;
                case "interval": return now.interval;
                case "frames": return now.frames;
                case "time": return now.time;
                case "pathCount": return now.paths.size();
                case "pathDirection":
                    return path(c[0]) && in(c[1], 0, 1) ? now.paths.get(c[0])[c[1]] : BAD_INDEX;
                case "quality":
                    if (!in(c[0], 0, 1)) return BAD_INDEX;
                    if (c[1] != -1 && !beam(0, c[1]) || c[2] != -1 && !beam(1, c[2])) return BAD_VALUE;
                    return now.quality(c[0], c[1], c[2]);
                case "bestPair": return now.bestPair();
                case "shortfall":
                    if (now.paths.isEmpty() || now.stations[0][3] == NONE || now.stations[1][3] == NONE) return NONE;
                    int best = now.bestPair();
                    return now.quality(0, best / 16, best % 16) - now.quality(0, now.stations[0][3], now.stations[1][3]);
                case "share":
                case "shareBits":
                    if (!in(c[0], 0, now.stations[0][0] - 1) || !in(c[1], 0, now.stations[1][0] - 1)) return BAD_INDEX;
                    if (now.paths.isEmpty()) return NONE;
                    float share = now.share(c[0], c[1]);
                    return name.equals("share") ? (int) (share * 1000.0f) : Float.floatToIntBits(share);
                case "backupCount": return now.backups.size();
                case "backupBeam":
                    return in(c[0], 0, now.backups.size() - 1) && in(c[1], 0, 1) ? now.backups.get(c[0])[c[1]] : BAD_INDEX;
                case "backupQuality":
                    return in(c[0], 0, now.backups.size() - 1) ? now.backups.get(c[0])[2] : BAD_INDEX;
                case "eventCount": return now.events.size();
                case "eventKind": return event(c[0], 0);
                case "eventValue": return event(c[0], 1);
                case "eventInterval": return event(c[0], 2);
                case "digest": return now.digest();
                default: throw new IllegalStateException(name);
            }
        }

        long event(int e, int part) {
            int size = now.events.size();
            return in(e, 0, size - 1) ? now.events.get(size - 1 - e)[part] : BAD_INDEX;
        }
    }

    // ---- the same call to the program

    private static long call(BeamTraining b, String name, int[] c) {
        switch (name) {
            case "type": return b.type(c[0]);
            case "clearText": return b.clearText();
            case "textFault": return b.textFault();
            case "load": return b.load();
            case "setStation": return b.setStation(c[0], c[1], c[2], c[3]);
            case "rotate": return b.rotate(c[0], c[1]);
            case "addPath": return b.addPath(c[0], c[1], c[2]);
            case "removePath": return b.removePath(c[0]);
            case "setDrift": return b.setDrift(c[0], c[1], c[2]);
            case "setBlock": return b.setBlock(c[0], c[1]);
            case "setThreshold": return b.setThreshold(c[0]);
            case "setFade": return b.setFade(c[0], c[1]);
            case "setTracking": return b.setTracking(c[0] == 1, c[1]);
            case "setRecovery": return b.setRecovery(c[0], c[1] == 1);
            case "sweep": return b.sweep(c[0]);
            case "refine": return b.refine(c[0]);
            case "survey": return b.survey(c[0]);
            case "select": return b.select(c[0], c[1]);
            case "pass": return b.pass(c[0]);
            case "undo": return b.undo();
            case "isUp": return b.isUp();
            case "beam": return b.beam(c[0]);
            case "direction": return b.direction(c[0], c[1]);
            case "gain": return b.gain(c[0], c[1], c[2]);
            case "heard": return b.heard(c[0], c[1]);
            case "failures": return b.failures();
            case "interval": return b.interval();
            case "frames": return b.frames();
            case "time": return b.time();
            case "pathCount": return b.pathCount();
            case "pathDirection": return b.pathDirection(c[0], c[1]);
            case "quality": return b.quality(c[0], c[1], c[2]);
            case "bestPair": return b.bestPair();
            case "shortfall": return b.shortfall();
            case "share": return b.share(c[0], c[1]);
            case "shareBits": return b.shareBits(c[0], c[1]);
            case "outage": return b.outage(c[0]);
            case "backupCount": return b.backupCount();
            case "backupBeam": return b.backupBeam(c[0], c[1]);
            case "backupQuality": return b.backupQuality(c[0]);
            case "eventCount": return b.eventCount();
            case "eventKind": return b.eventKind(c[0]);
            case "eventValue": return b.eventValue(c[0]);
            case "eventInterval": return b.eventInterval(c[0]);
            case "digest": return b.digest();
            default: throw new IllegalStateException(name);
        }
    }

    // ---- the calls of a run

    private static final class Run {
        final Random random;
        final int number;
        final BeamTraining program = new BeamTraining();
        final Model model = new Model();
        int calls = 0;

        Run(int number) {
            this.number = number;
            random = new Random(number);
        }

        int any(int low, int high) {
            return low + random.nextInt(high - low + 1);
        }

        /** Mostly a number of the range, often one of its ends, seldom one outside. */
        int near(int low, int high) {
            int choice = random.nextInt(40);
            if (choice == 0) return low - 1;
            if (choice == 1) return high + 1;
            if (choice == 2) return random.nextInt();
            if (choice < 6) return low;
            if (choice < 9) return high;
            return any(low, high);
        }

        void both(String name, int... c) {
            if (calls >= CALLS) return;
            calls++;
            long got = call(program, name, c);
            long want = model.answer(name, c);
            if (got != want) {
                wrong++;
                System.out.println("run " + number + ", call " + calls + ": " + name + java.util.Arrays.toString(c)
                    + " answered " + got + ", due is " + want);
            }
        }

        String item() {
            switch (random.nextInt(7)) {
                case 0: return "station " + near(0, 1) + " " + near(2, 16) + " " + near(0, 63) + " " + near(0, 100);
                case 1: return "threshold " + near(-200, 200);
                case 2: return "fade " + near(0, 60);
                case 3: return "patience " + near(1, 9);
                case 4: return "path " + near(0, 63) + " " + near(0, 63) + " " + near(0, 300)
                    + " drift " + near(-3, 3) + " " + near(-3, 3);
                default: return "path" + near(0, 63) + " " + near(0, 63) + " " + near(0, 300);
            }
        }

        void type() {
            if (random.nextInt(5) > 0) both("clearText");
            StringBuilder text = new StringBuilder();
            if (random.nextInt(6) == 0) {
                for (int i = any(7, 10); i > 0; i--) text.append(i == 1 ? "" : ";").insert(0, "path 1 2 3");
            } else {
                for (int i = any(1, 4); i > 0; i--) text.append(item()).append(i == 1 ? "" : ";");
            }
            while (random.nextInt(3) == 0) {
                int at = random.nextInt(text.length());
                switch (random.nextInt(4)) {
                    case 0 -> text.deleteCharAt(at);
                    case 1 -> text.insert(at, ' ');
                    case 2 -> text.setCharAt(at, (char) random.nextInt(256));
                    default -> text.insert(at, "0-;drift 9\u00e9".charAt(random.nextInt(11)));
                }
            }
            for (int i = 0; i < text.length(); i++) {
                both("type", text.charAt(i));
                if (random.nextInt(12) == 0) both("textFault");
            }
            both("textFault");
            both("load");
            both("digest");
        }

        int path() {
            return near(0, Math.max(0, model.now.paths.size() - 1));
        }

        int beam(int s) {
            return near(-1, 6 * model.now.stations[s & 1][0] - 1);
        }

        void set() {
            int s = near(0, 1);
            switch (random.nextInt(16)) {
                case 0 -> both("setStation", s, near(2, 16), near(0, 63), near(0, 100));
                case 1 -> both("setStation", s, any(2, 4), near(0, 63), near(20, 60));
                case 2 -> both("rotate", s, near(-63, 63));
                case 3 -> both("removePath", path());
                case 4, 5 -> both("setDrift", path(), near(-3, 3), near(-3, 3));
                case 6 -> both("setBlock", path(), near(0, 200));
                case 7 -> both("setBlock", path(), random.nextInt(3) * 60);
                case 8 -> both("setThreshold", random.nextInt(3) == 0 ? near(-200, 200) : any(-40, 20));
                case 9 -> both("setFade", random.nextInt(2) == 0 ? near(0, 60) : any(0, 8), random.nextInt());
                case 10 -> both("setTracking", random.nextInt(4) == 0 ? 0 : 1, random.nextInt(3) == 0 ? near(0, 40) : any(0, 4));
                case 11 -> both("setRecovery", random.nextInt(2) == 0 ? near(1, 9) : any(1, 3), random.nextInt(2));
                default -> both("addPath", near(0, 63), near(0, 63), random.nextInt(5) == 0 ? near(0, 300) : any(20, 80));
            }
        }

        void act() {
            int s = near(0, 1);
            switch (random.nextInt(12)) {
                case 0, 1, 2 -> both("sweep", s);
                case 3, 4 -> both("refine", s);
                case 5, 6 -> both("survey", random.nextInt(2) == 0 ? near(1, 32) : any(1, 12));
                case 7 -> both("select", s, beam(s));
                case 8, 9, 10 -> both("pass", random.nextInt(3) == 0 ? near(1, 50) : any(1, 4));
                default -> {
                    for (int i = random.nextInt(8); i >= 0; i--) both("undo");
                }
            }
            both("digest");
        }

        void ask() {
            int s = near(0, 1);
            switch (random.nextInt(24)) {
                case 0 -> both("isUp");
                case 1 -> both("beam", s);
                case 2 -> both("direction", s, beam(s));
                case 3 -> both("gain", s, beam(s), near(0, 63));
                case 4 -> both("heard", s, near(0, model.now.stations[(s & 1) ^ 1][0] - 1));
                case 5 -> both("failures");
                case 6 -> both("interval");
                case 7 -> both("frames");
                case 8 -> both("time");
                case 9 -> both("pathCount");
                case 10 -> both("pathDirection", path(), s);
                case 11 -> both("quality", s, beam(0), beam(1));
                case 12 -> both("bestPair");
                case 13 -> both("shortfall");
                case 14 -> both("share", near(0, model.now.stations[0][0] - 1), near(0, model.now.stations[1][0] - 1));
                case 15 -> both("shareBits", near(0, model.now.stations[0][0] - 1), near(0, model.now.stations[1][0] - 1));
                case 16, 17 -> both("outage", near(1, 100));
                case 18 -> both("backupCount");
                case 19 -> both("backupBeam", near(0, 2), s);
                case 20 -> both("backupQuality", near(0, 2));
                case 21 -> both("eventCount");
                case 22 -> both("eventKind", near(0, 19));
                default -> {
                    both("eventValue", near(0, 19));
                    both("eventInterval", near(0, 19));
                }
            }
        }

        void all() {
            int texts = random.nextInt(8) == 0 ? 6 : 60;
            while (calls < CALLS) {
                int kind = random.nextInt(texts);
                if (kind == 0) type();
                else if (kind % 3 == 0) set();
                else if (kind % 3 == 1) act();
                else ask();
            }
        }
    }

    public static void main(String[] args) {
        for (int run = 1; run <= RUNS && wrong < 20; run++) {
            new Run(run).all();
        }
        System.out.println(wrong == 0 ? "all answers are as due" : wrong + " answers are not as due");
        if (wrong != 0) System.exit(1);
    }
}
