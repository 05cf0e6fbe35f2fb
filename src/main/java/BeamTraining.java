/**
 * A simulator of beam training between two millimetre-wave stations with phased antenna arrays.
 * The document ../shared/DOC.md tells what each method promises.
 *
 * All rows are made with the object and used again: no call makes an object.
 */
public final class BeamTraining {
    public static final int OMNI = -1, NONE = -100000, BAD_INDEX = -100001, BAD_VALUE = -100002, BAD_STATE = -100003, FULL = -100004;

    private static final int MAX_SECTORS = 16;
    private static final int MAX_PATHS = 8;
    private static final int MAX_BACKUPS = 3;
    private static final int MAX_EVENTS = 20;
    private static final int MAX_TEXT = 120;
    private static final int MAX_SAVED = 6;

    private static final int SWEEP_TIME = 16;
    private static final int FEEDBACK_TIME = 9;
    private static final int TEST_TIME = 4;
    private static final int DATA_TIME = 2;

    private static final int SWEEP_DONE = 1;
    private static final int LINK_LOST = 2;
    private static final int BACKUP_TAKEN = 3;
    private static final int BEAM_TRACKED = 4;
    private static final int SWEEP_FAILED = 5;

    private final State now = new State();
    // What may not touch the present state is tried on this one: the items of a text, and an outage.
    private final State trial = new State();
    private final State[] saved = new State[MAX_SAVED];
    private int savedCount = 0;
    private final Scenario scenario = new Scenario();
    private final PairSurvey pairs = new PairSurvey();

    public BeamTraining() {
        for (int i = 0; i < saved.length; i++) {
            saved[i] = new State();
        }
    }

    // ---- the text of a scenario

    public int type(int code) {
        return within(code, 0, 255) ? scenario.append(code) : BAD_VALUE;
    }

    public int clearText() {
        int length = scenario.length;
        scenario.length = 0;
        return length;
    }

    public int textFault() {
        return scenario.readInto(trial);
    }

    public int load() {
        if (scenario.readInto(trial) != NONE) {
            return BAD_STATE;
        }
        save();
        now.copyFrom(trial);
        return now.pathCount;
    }

    // ---- stations, paths and settings

    public int setStation(int station, int sectors, int orientation, int power) {
        if (!isStation(station)) {
            return BAD_INDEX;
        }
        if (!within(sectors, 2, MAX_SECTORS) || !within(orientation, 0, 63) || !within(power, 0, 100)) {
            return BAD_VALUE;
        }
        save();
        int previous = now.station(station).sectors;
        now.setUpStation(station, sectors, orientation, power);
        return previous;
    }

    public int rotate(int station, int by) {
        if (!isStation(station)) {
            return BAD_INDEX;
        }
        if (!within(by, -63, 63)) {
            return BAD_VALUE;
        }
        save();
        Station turned = now.station(station);
        turned.orientation = Radio.turn(turned.orientation, by);
        return turned.orientation;
    }

    public int addPath(int direction0, int direction1, int loss) {
        if (!within(direction0, 0, 63) || !within(direction1, 0, 63) || !within(loss, 0, 300)) {
            return BAD_VALUE;
        }
        if (now.pathCount >= MAX_PATHS) {
            return FULL;
        }
        save();
        now.appendPath(direction0, direction1, loss, 0, 0);
        return now.pathCount - 1;
    }

    public int removePath(int path) {
        if (!now.hasPath(path)) {
            return BAD_INDEX;
        }
        save();
        now.dropPath(path);
        return now.pathCount;
    }

    public int setDrift(int path, int drift0, int drift1) {
        if (!now.hasPath(path)) {
            return BAD_INDEX;
        }
        if (!within(drift0, -3, 3) || !within(drift1, -3, 3)) {
            return BAD_VALUE;
        }
        save();
        now.paths[path].drift0 = drift0;
        now.paths[path].drift1 = drift1;
        return 1;
    }

    public int setBlock(int path, int extra) {
        if (!now.hasPath(path)) {
            return BAD_INDEX;
        }
        if (!within(extra, 0, 200)) {
            return BAD_VALUE;
        }
        save();
        int previous = now.paths[path].extra;
        now.paths[path].extra = extra;
        return previous;
    }

    public int setThreshold(int threshold) {
        if (!within(threshold, -200, 200)) {
            return BAD_VALUE;
        }
        save();
        int previous = now.threshold;
        now.threshold = threshold;
        return previous;
    }

    public int setFade(int amplitude, int x) {
        if (!within(amplitude, 0, 60)) {
            return BAD_VALUE;
        }
        save();
        int previous = now.fade;
        now.fade = amplitude;
        now.x = x;
        return previous;
    }

    public int setTracking(boolean on, int hysteresis) {
        if (!within(hysteresis, 0, 40)) {
            return BAD_VALUE;
        }
        save();
        int previous = bit(now.tracking);
        now.tracking = on;
        now.hysteresis = hysteresis;
        return previous;
    }

    public int setRecovery(int patience, boolean automatic) {
        if (!within(patience, 1, 9)) {
            return BAD_VALUE;
        }
        save();
        int previous = now.patience;
        now.patience = patience;
        now.automatic = automatic;
        return previous;
    }

    // ---- training

    public int sweep(int initiator) {
        if (!isStation(initiator)) {
            return BAD_INDEX;
        }
        save();
        return now.runSweep(initiator);
    }

    public int refine(int station) {
        if (!isStation(station)) {
            return BAD_INDEX;
        }
        if (!now.up) {
            return BAD_STATE;
        }
        save();
        now.refineBeam(station);
        return now.station(station).present;
    }

    public int survey(int separation) {
        if (!within(separation, 1, 32)) {
            return BAD_VALUE;
        }
        save();
        pairs.findBackups(now, separation);
        return now.backups.count;
    }

    public int select(int station, int beam) {
        if (!isStation(station)) {
            return BAD_INDEX;
        }
        if (!now.station(station).hasBeam(beam)) {
            return BAD_VALUE;
        }
        save();
        int previous = now.station(station).present;
        now.station(station).present = beam;
        return previous;
    }

    public int pass(int many) {
        if (!within(many, 1, 50)) {
            return BAD_VALUE;
        }
        save();
        for (int i = 0; i < many; i++) {
            now.passInterval();
        }
        return bit(now.up);
    }

    public int undo() {
        if (savedCount < 1 || savedCount > saved.length) {
            return BAD_STATE;
        }
        savedCount--;
        now.copyFrom(saved[savedCount]);
        return savedCount;
    }

    // ---- the state

    public int isUp() {
        return bit(now.up);
    }

    public int beam(int station) {
        return isStation(station) ? now.station(station).present : BAD_INDEX;
    }

    public int direction(int station, int beam) {
        if (!isStation(station)) {
            return BAD_INDEX;
        }
        Station asked = now.station(station);
        return asked.hasBeam(beam) ? asked.pointing(beam) : BAD_VALUE;
    }

    public int gain(int station, int beam, int toward) {
        if (!isStation(station)) {
            return BAD_INDEX;
        }
        Station asked = now.station(station);
        if (!asked.hasBeamOrOmni(beam) || !within(toward, 0, 63)) {
            return BAD_VALUE;
        }
        return asked.gainAt(beam, Radio.angle(asked.pointing(beam), toward));
    }

    public int heard(int station, int sector) {
        if (!isStation(station) || !now.station(1 - station).hasSector(sector)) {
            return BAD_INDEX;
        }
        return now.station(station).entry(sector);
    }

    public int failures() {
        return now.failures;
    }

    public int interval() {
        return now.interval;
    }

    public int frames() {
        return now.frames;
    }

    public int time() {
        return now.time;
    }

    public int pathCount() {
        return now.pathCount;
    }

    public int pathDirection(int path, int station) {
        if (!now.hasPath(path) || !isStation(station)) {
            return BAD_INDEX;
        }
        return station == 0 ? now.paths[path].at0 : now.paths[path].at1;
    }

    // ---- qualities

    public int quality(int from, int beam0, int beam1) {
        if (!isStation(from)) {
            return BAD_INDEX;
        }
        if (!now.first.hasBeamOrOmni(beam0) || !now.second.hasBeamOrOmni(beam1)) {
            return BAD_VALUE;
        }
        return now.qualityOf(from, beam0, beam1);
    }

    public int bestPair() {
        return now.bestWidePair();
    }

    public int shortfall() {
        int beam0 = now.first.present;
        int beam1 = now.second.present;
        int best = now.bestWidePair();
        if (best == NONE || beam0 == NONE || beam1 == NONE) {
            return NONE;
        }
        return now.qualityOf(0, best / 16, best % 16) - now.qualityOf(0, beam0, beam1);
    }

    public int share(int sector0, int sector1) {
        if (!now.first.hasSector(sector0) || !now.second.hasSector(sector1)) {
            return BAD_INDEX;
        }
        return now.pathCount == 0 ? NONE : (int) (now.shareOf(sector0, sector1) * 1000.0f);
    }

    public int shareBits(int sector0, int sector1) {
        if (!now.first.hasSector(sector0) || !now.second.hasSector(sector1)) {
            return BAD_INDEX;
        }
        return now.pathCount == 0 ? NONE : Radio.bitsOf(now.shareOf(sector0, sector1));
    }

    public int outage(int many) {
        if (!within(many, 1, 100)) {
            return BAD_VALUE;
        }
        trial.copyFrom(now);
        for (int passed = 0; passed <= many; passed++) {
            if (!trial.up) {
                return passed;
            }
            if (passed < many) {
                trial.passInterval();
            }
        }
        return NONE;
    }

    // ---- backups and events

    public int backupCount() {
        return now.backups.count;
    }

    public int backupBeam(int backup, int station) {
        if (!now.backups.has(backup) || !isStation(station)) {
            return BAD_INDEX;
        }
        return station == 0 ? now.backups.beams0[backup] : now.backups.beams1[backup];
    }

    public int backupQuality(int backup) {
        return now.backups.has(backup) ? now.backups.qualities[backup] : BAD_INDEX;
    }

    public int eventCount() {
        return now.events.count;
    }

    public int eventKind(int event) {
        return now.events.has(event) ? now.events.kinds[now.events.placeOf(event)] : BAD_INDEX;
    }

    public int eventValue(int event) {
        return now.events.has(event) ? now.events.values[now.events.placeOf(event)] : BAD_INDEX;
    }

    public int eventInterval(int event) {
        return now.events.has(event) ? now.events.intervals[now.events.placeOf(event)] : BAD_INDEX;
    }

    public long digest() {
        return now.hash();
    }

    // ---- helpers of the face

    private static boolean within(int value, int low, int high) {
        return value >= low && value <= high;
    }

    private static boolean isStation(int station) {
        return station == 0 || station == 1;
    }

    private static int bit(boolean flag) {
        return flag ? 1 : 0;
    }

    private static long mix(long h, int v) {
        return 31 * h + v;
    }

    /** Keeps the present state; the oldest kept one gives up its object if there is no room. */
    private void save() {
        if (savedCount >= saved.length) {
            State oldest = saved[0];
            for (int i = 1; i < saved.length; i++) {
                saved[i - 1] = saved[i];
            }
            saved[saved.length - 1] = oldest;
            savedCount = saved.length - 1;
        }
        if (savedCount < 0) {
            return;
        }
        saved[savedCount].copyFrom(now);
        savedCount++;
    }

    /** Directions, and the powers of levels. */
    private static final class Radio {
        private Radio() {
        }

        static int turn(int direction, int by) {
            return (direction + by) & 63;
        }

        static int angle(int one, int other) {
            int difference = (one - other) & 63;
            return difference > 32 ? 64 - difference : difference;
        }

        static float powerOf(int level) {
            int doublings = Math.floorDiv(level, 12);
            float step = stepOf(Math.floorMod(level, 12));
            // A power of two is exact as a float, so neither the product nor the quotient is rounded.
            return doublings >= 0 ? step * (float) (1L << doublings) : step / (float) (1L << -doublings);
        }

        private static float stepOf(int step) {
            switch (step) {
                case 1: return 1.0594631f;
                case 2: return 1.122462f;
                case 3: return 1.1892071f;
                case 4: return 1.2599211f;
                case 5: return 1.3348398f;
                case 6: return 1.4142135f;
                case 7: return 1.4983071f;
                case 8: return 1.587401f;
                case 9: return 1.6817929f;
                case 10: return 1.7817974f;
                case 11: return 1.8877486f;
                default: return 1.0f;
            }
        }

        /** The greatest level whose power is not greater; the levels of all states lie between -580 and 232. */
        static int levelOf(float power) {
            int level = -640;
            for (int step = 512; step > 0; step >>= 1) {
                if (powerOf(level + step) <= power) {
                    level += step;
                }
            }
            return level;
        }

        /** The bits of a share: a float above 0 and not above 1, and far from the smallest ones. */
        static int bitsOf(float share) {
            int exponent = 127;
            float significand = share;
            while (significand < 1.0f && exponent > 1) {
                significand = significand * 2.0f;
                exponent--;
            }
            return (exponent << 23) + (int) ((significand - 1.0f) * 8388608.0f);
        }
    }

    /** A station, its present beam, and how it heard the sectors of the other one. */
    private static final class Station {
        int sectors;
        int orientation;
        int power;
        int present;
        final int[] table = new int[MAX_SECTORS];

        Station() {
        }

        void setUp(int sectors, int orientation, int power) {
            this.sectors = sectors;
            this.orientation = orientation;
            this.power = power;
            present = NONE;
            clearTable();
        }

        void copyFrom(Station other) {
            sectors = other.sectors;
            orientation = other.orientation;
            power = other.power;
            present = other.present;
            for (int k = 0; k < MAX_SECTORS; k++) {
                table[k] = other.table[k];
            }
        }

        void clearTable() {
            for (int k = 0; k < MAX_SECTORS; k++) {
                table[k] = NONE;
            }
        }

        int entry(int sector) {
            return sector >= 0 && sector < MAX_SECTORS ? table[sector] : NONE;
        }

        void enter(int sector, int measured) {
            if (sector >= 0 && sector < MAX_SECTORS) {
                table[sector] = measured;
            }
        }

        boolean hasSector(int sector) {
            return sector >= 0 && sector < sectors;
        }

        boolean hasBeam(int beam) {
            return beam >= 0 && beam < 6 * sectors;
        }

        boolean hasBeamOrOmni(int beam) {
            return beam == OMNI || hasBeam(beam);
        }

        int sectorOf(int beam) {
            return beam < sectors ? beam : (beam - sectors) / 5;
        }

        int offsetOf(int beam) {
            return beam < sectors ? 0 : (beam - sectors) % 5 - 2;
        }

        int narrowBeam(int sector, int offset) {
            return sectors + 5 * sector + offset + 2;
        }

        /** The sector beside a sector, round the station. */
        int sectorBeside(int sector, int by) {
            int beside = sector + by;
            if (beside < 0) {
                return beside + sectors;
            }
            return beside >= sectors ? beside - sectors : beside;
        }

        int pointing(int beam) {
            int sectorDirection = sectors > 0 ? 64 * sectorOf(beam) / sectors : 0;
            return (orientation + sectorDirection + offsetOf(beam)) & 63;
        }

        int gainAt(int beam, int angle) {
            if (beam == OMNI) {
                return 0;
            }
            int gain = beam < sectors ? 36 - angle * angle : 48 - 3 * angle * angle;
            return gain < -40 ? -40 : gain;
        }

        /** The lower (by = -1) or upper (by = 1) neighbour of a beam. */
        int neighbourOf(int beam, int by) {
            int sector = sectorOf(beam);
            if (beam < sectors) {
                return sectorBeside(sector, by);
            }
            int offset = offsetOf(beam) + by;
            if (offset < -2 || offset > 2) {
                return narrowBeam(sectorBeside(sector, by), -2 * by);
            }
            return narrowBeam(sector, offset);
        }

        long hash(long start, int entries) {
            long h = mix(mix(mix(mix(start, sectors), orientation), power), present);
            for (int k = 0; k < entries; k++) {
                h = mix(h, entry(k));
            }
            return h;
        }
    }

    /** A way of the radio waves from one station to the other. */
    private static final class Path {
        int at0;
        int at1;
        int loss;
        int extra;
        int drift0;
        int drift1;

        Path() {
        }

        void copyFrom(Path other) {
            at0 = other.at0;
            at1 = other.at1;
            loss = other.loss;
            extra = other.extra;
            drift0 = other.drift0;
            drift1 = other.drift1;
        }

        void drift() {
            at0 = Radio.turn(at0, drift0);
            at1 = Radio.turn(at1, drift1);
        }

        long hash(long start) {
            return mix(mix(mix(mix(mix(mix(start, at0), at1), loss), extra), drift0), drift1);
        }
    }

    /** The pairs of beams that are taken when the present ones fail. */
    private static final class Backups {
        final int[] beams0 = new int[MAX_BACKUPS];
        final int[] beams1 = new int[MAX_BACKUPS];
        final int[] qualities = new int[MAX_BACKUPS];
        int count = 0;

        Backups() {
        }

        void copyFrom(Backups other) {
            for (int b = 0; b < MAX_BACKUPS; b++) {
                beams0[b] = other.beams0[b];
                beams1[b] = other.beams1[b];
                qualities[b] = other.qualities[b];
            }
            count = other.count;
        }

        boolean has(int backup) {
            return backup >= 0 && backup < count && backup < MAX_BACKUPS;
        }

        void add(int beam0, int beam1, int quality) {
            if (count < 0 || count >= MAX_BACKUPS) {
                return;
            }
            beams0[count] = beam0;
            beams1[count] = beam1;
            qualities[count] = quality;
            count++;
        }

        void remove(int backup) {
            if (!has(backup)) {
                return;
            }
            for (int b = backup + 1; b < MAX_BACKUPS; b++) {
                beams0[b - 1] = beams0[b];
                beams1[b - 1] = beams1[b];
                qualities[b - 1] = qualities[b];
            }
            count--;
        }

        long hash(long start) {
            long h = start;
            for (int b = 0; b < count && b < MAX_BACKUPS; b++) {
                h = mix(mix(mix(h, beams0[b]), beams1[b]), qualities[b]);
            }
            return h;
        }
    }

    /** The latest events, the oldest one first. */
    private static final class Events {
        final int[] kinds = new int[MAX_EVENTS];
        final int[] values = new int[MAX_EVENTS];
        final int[] intervals = new int[MAX_EVENTS];
        int count = 0;

        Events() {
        }

        void copyFrom(Events other) {
            for (int e = 0; e < MAX_EVENTS; e++) {
                kinds[e] = other.kinds[e];
                values[e] = other.values[e];
                intervals[e] = other.intervals[e];
            }
            count = other.count;
        }

        boolean has(int event) {
            return event >= 0 && event < count && count <= MAX_EVENTS;
        }

        /** Where an event stands that is numbered from the latest one; only for one that is there. */
        int placeOf(int event) {
            return count - 1 - event;
        }

        void add(int kind, int value, int interval) {
            if (count >= MAX_EVENTS) {
                forgetOldest();
            }
            if (count < 0) {
                return;
            }
            kinds[count] = kind;
            values[count] = value;
            intervals[count] = interval;
            count++;
        }

        private void forgetOldest() {
            for (int e = 1; e < MAX_EVENTS; e++) {
                kinds[e - 1] = kinds[e];
                values[e - 1] = values[e];
                intervals[e - 1] = intervals[e];
            }
            count = MAX_EVENTS - 1;
        }

        long hash(long start) {
            long h = start;
            for (int e = 0; e < count && e < MAX_EVENTS; e++) {
                h = mix(mix(mix(h, kinds[e]), values[e]), intervals[e]);
            }
            return h;
        }
    }

    /** All that an undo brings back, and what is done to it by training and time. */
    private static final class State {
        final Station first = new Station();
        final Station second = new Station();
        final Path[] paths = new Path[MAX_PATHS];
        int pathCount;
        final Backups backups = new Backups();
        final Events events = new Events();
        boolean up;
        int failures;
        int interval;
        int frames;
        int time;
        int x;
        int threshold;
        int fade;
        boolean tracking;
        int hysteresis;
        int patience;
        boolean automatic;

        State() {
            for (int p = 0; p < paths.length; p++) {
                paths[p] = new Path();
            }
            startAnew();
        }

        void startAnew() {
            first.setUp(8, 0, 40);
            second.setUp(8, 0, 40);
            pathCount = 0;
            backups.count = 0;
            events.count = 0;
            up = false;
            failures = 0;
            interval = 0;
            frames = 0;
            time = 0;
            x = 1;
            threshold = 0;
            fade = 0;
            tracking = false;
            hysteresis = 4;
            patience = 2;
            automatic = false;
        }

        void copyFrom(State other) {
            first.copyFrom(other.first);
            second.copyFrom(other.second);
            for (int p = 0; p < MAX_PATHS; p++) {
                paths[p].copyFrom(other.paths[p]);
            }
            pathCount = other.pathCount;
            backups.copyFrom(other.backups);
            events.copyFrom(other.events);
            up = other.up;
            failures = other.failures;
            interval = other.interval;
            frames = other.frames;
            time = other.time;
            x = other.x;
            threshold = other.threshold;
            fade = other.fade;
            tracking = other.tracking;
            hysteresis = other.hysteresis;
            patience = other.patience;
            automatic = other.automatic;
        }

        Station station(int number) {
            return number == 0 ? first : second;
        }

        void setUpStation(int number, int sectors, int orientation, int power) {
            station(number).setUp(sectors, orientation, power);
            station(1 - number).clearTable();
            backups.count = 0;
            up = false;
        }

        boolean hasPath(int path) {
            return path >= 0 && path < pathCount && path < MAX_PATHS;
        }

        void appendPath(int at0, int at1, int loss, int drift0, int drift1) {
            if (pathCount < 0 || pathCount >= MAX_PATHS) {
                return;
            }
            Path path = paths[pathCount];
            path.at0 = at0;
            path.at1 = at1;
            path.loss = loss;
            path.extra = 0;
            path.drift0 = drift0;
            path.drift1 = drift1;
            pathCount++;
        }

        void dropPath(int path) {
            if (!hasPath(path)) {
                return;
            }
            Path dropped = paths[path];
            for (int p = path + 1; p < MAX_PATHS; p++) {
                paths[p - 1] = paths[p];
            }
            paths[MAX_PATHS - 1] = dropped;
            pathCount--;
        }

        /** The received power when one station transmits; the beams are those of stations 0 and 1. */
        float received(int from, int beam0, int beam1) {
            int transmitPower = station(from).power;
            int pointing0 = first.pointing(beam0);
            int pointing1 = second.pointing(beam1);
            float sum = 0.0f;
            for (int p = 0; p < pathCount && p < MAX_PATHS; p++) {
                Path path = paths[p];
                int gain0 = first.gainAt(beam0, Radio.angle(pointing0, path.at0));
                int gain1 = second.gainAt(beam1, Radio.angle(pointing1, path.at1));
                sum = sum + Radio.powerOf(transmitPower + gain0 + gain1 - path.loss - path.extra);
            }
            return sum;
        }

        int qualityOf(int from, int beam0, int beam1) {
            return pathCount == 0 ? NONE : Radio.levelOf(received(from, beam0, beam1));
        }

        int bestWidePair() {
            int best = NONE;
            int bestQuality = NONE;
            for (int i = 0; i < first.sectors; i++) {
                for (int j = 0; j < second.sectors; j++) {
                    int quality = qualityOf(0, i, j);
                    if (quality > bestQuality) {
                        bestQuality = quality;
                        best = 16 * i + j;
                    }
                }
            }
            return best;
        }

        /** Only for a state with paths: then the sum of the powers is above 0. */
        float shareOf(int sector0, int sector1) {
            float sum = 0.0f;
            for (int i = 0; i < first.sectors; i++) {
                for (int j = 0; j < second.sectors; j++) {
                    sum = sum + received(0, i, j);
                }
            }
            return sum > 0.0f ? received(0, sector0, sector1) / sum : 0.0f;
        }

        /** Sends a frame; tells the measured quality if the frame is heard, otherwise NONE. */
        int transmit(int from, int sendBeam, int receiveBeam, int duration) {
            frames++;
            time += duration;
            x = x * 1664525 + 1013904223;
            if (pathCount == 0) {
                return NONE;
            }
            int beam0 = from == 0 ? sendBeam : receiveBeam;
            int beam1 = from == 0 ? receiveBeam : sendBeam;
            int fades = fade + 1;
            int fadeOfFrame = fades > 0 ? (x >>> 8) % fades : 0;
            int measured = Radio.levelOf(received(from, beam0, beam1)) - fadeOfFrame;
            return measured >= threshold ? measured : NONE;
        }

        int runSweep(int initiator) {
            int responder = 1 - initiator;
            int bestOfInitiator = sendSectors(initiator);
            if (bestOfInitiator == NONE) {
                return endSweep(initiator, 1);
            }
            int bestOfResponder = sendSectors(responder);
            if (bestOfResponder == NONE) {
                return endSweep(initiator, 2);
            }
            station(initiator).present = bestOfInitiator;
            if (transmit(initiator, bestOfInitiator, OMNI, FEEDBACK_TIME) == NONE) {
                return endSweep(initiator, 3);
            }
            station(responder).present = bestOfResponder;
            if (transmit(responder, bestOfResponder, OMNI, FEEDBACK_TIME) == NONE) {
                return endSweep(initiator, 4);
            }
            return endSweep(initiator, 0);
        }

        /** Sends a frame with each wide beam of a station; tells its best sector, NONE if none was heard. */
        private int sendSectors(int sender) {
            Station hearer = station(1 - sender);
            int best = NONE;
            int bestMeasured = NONE;
            for (int k = station(sender).sectors - 1; k >= 0; k--) {
                int measured = transmit(sender, k, OMNI, SWEEP_TIME);
                hearer.enter(k, measured);
                if (measured > bestMeasured) {
                    bestMeasured = measured;
                    best = k;
                }
            }
            return best;
        }

        private int endSweep(int initiator, int result) {
            up = result == 0;
            failures = 0;
            if (up) {
                events.add(SWEEP_DONE, initiator, interval);
            } else {
                events.add(SWEEP_FAILED, result, interval);
            }
            return result;
        }

        void refineBeam(int number) {
            Station refined = station(number);
            Station other = station(1 - number);
            int sector = refined.sectorOf(refined.present);
            int best = refined.present;
            int bestMeasured = transmit(number, refined.present, other.present, TEST_TIME);
            // With two sectors the one below is also the one above: it is not sent again.
            int lastStep = refined.sectors == 2 ? 0 : 1;
            for (int step = -1; step <= lastStep; step++) {
                int near = refined.sectorBeside(sector, step);
                for (int offset = -2; offset <= 2; offset++) {
                    int narrow = refined.narrowBeam(near, offset);
                    int measured = transmit(number, narrow, other.present, TEST_TIME);
                    if (measured > bestMeasured) {
                        bestMeasured = measured;
                        best = narrow;
                    }
                }
            }
            if (bestMeasured != NONE && transmit(1 - number, other.present, refined.present, FEEDBACK_TIME) != NONE) {
                refined.present = best;
            }
        }

        void passInterval() {
            interval++;
            for (int p = 0; p < pathCount && p < MAX_PATHS; p++) {
                paths[p].drift();
            }
            if (up && tracking) {
                trackBeam(0);
                trackBeam(1);
            }
            if (up) {
                exchangeData();
            }
            if (!up && automatic) {
                runSweep(0);
            }
        }

        private void trackBeam(int number) {
            Station tracked = station(number);
            int otherBeam = station(1 - number).present;
            int lower = tracked.neighbourOf(tracked.present, -1);
            int upper = tracked.neighbourOf(tracked.present, 1);
            int present = transmit(number, tracked.present, otherBeam, DATA_TIME);
            int fromLower = transmit(number, lower, otherBeam, DATA_TIME);
            int fromUpper = transmit(number, upper, otherBeam, DATA_TIME);
            int better = fromUpper > fromLower ? fromUpper : fromLower;
            if (better != NONE && (present == NONE || better >= present + hysteresis)) {
                tracked.present = fromUpper > fromLower ? upper : lower;
                events.add(BEAM_TRACKED, number, interval);
            }
        }

        private void exchangeData() {
            boolean heardBy1 = transmit(0, first.present, second.present, DATA_TIME) != NONE;
            boolean heardBy0 = transmit(1, second.present, first.present, DATA_TIME) != NONE;
            failures = heardBy1 && heardBy0 ? 0 : failures + 1;
            if (failures >= patience) {
                failures = 0;
                switchToBackup();
            }
        }

        private void switchToBackup() {
            for (int b = 0; b < backups.count && b < MAX_BACKUPS; b++) {
                if (transmit(0, backups.beams0[b], backups.beams1[b], TEST_TIME) != NONE) {
                    first.present = backups.beams0[b];
                    second.present = backups.beams1[b];
                    backups.remove(b);
                    events.add(BACKUP_TAKEN, b, interval);
                    return;
                }
            }
            up = false;
            events.add(LINK_LOST, 0, interval);
        }

        long hash() {
            long h = mix(mix(mix(mix(mix(mix(17, bit(up)), failures), interval), frames), time), x);
            h = first.hash(h, second.sectors);
            h = second.hash(h, first.sectors);
            for (int p = 0; p < pathCount && p < MAX_PATHS; p++) {
                h = paths[p].hash(h);
            }
            h = events.hash(backups.hash(h));
            h = mix(mix(mix(h, threshold), fade), bit(tracking));
            return mix(mix(mix(h, hysteresis), patience), bit(automatic));
        }
    }

    /** Measures all pairs of wide beams, and chooses backups among them. */
    private static final class PairSurvey {
        final int[] measured = new int[MAX_SECTORS * MAX_SECTORS];

        PairSurvey() {
        }

        void findBackups(State state, int separation) {
            for (int i = 0; i < state.first.sectors; i++) {
                for (int j = 0; j < state.second.sectors; j++) {
                    put(i, j, state.transmit(0, i, j, TEST_TIME));
                }
            }
            state.backups.count = 0;
            // The conditions only grow: the next backup is always the best of the pairs that still meet them,
            // and a pair does not meet those of its own place.
            for (int b = 0; b < MAX_BACKUPS; b++) {
                addBestPair(state, separation);
            }
        }

        private void put(int i, int j, int value) {
            int place = MAX_SECTORS * i + j;
            if (place >= 0 && place < measured.length) {
                measured[place] = value;
            }
        }

        private int get(int i, int j) {
            int place = MAX_SECTORS * i + j;
            return place >= 0 && place < measured.length ? measured[place] : NONE;
        }

        private void addBestPair(State state, int separation) {
            int best0 = NONE;
            int best1 = NONE;
            int best = NONE;
            for (int i = 0; i < state.first.sectors; i++) {
                for (int j = 0; j < state.second.sectors; j++) {
                    if (get(i, j) > best && isApart(state, i, j, separation)) {
                        best = get(i, j);
                        best0 = i;
                        best1 = j;
                    }
                }
            }
            if (best != NONE) {
                state.backups.add(best0, best1, best);
            }
        }

        private static boolean isApart(State state, int i, int j, int separation) {
            Backups backups = state.backups;
            boolean apart = isFar(state.first, i, state.first.present, separation)
                    && isFar(state.second, j, state.second.present, separation);
            for (int b = 0; apart && b < backups.count && b < MAX_BACKUPS; b++) {
                apart = isFar(state.first, i, backups.beams0[b], separation)
                        && isFar(state.second, j, backups.beams1[b], separation);
            }
            return apart;
        }

        private static boolean isFar(Station station, int beam, int taken, int separation) {
            return taken == NONE || Radio.angle(station.pointing(beam), station.pointing(taken)) >= separation;
        }
    }

    /** The text of a scenario, and its reader, which stands before one token of it. */
    private static final class Scenario {
        final char[] text = new char[MAX_TEXT];
        int length = 0;
        private int tokenStart = 0;
        private int tokenEnd = 0;
        private int fault = NONE;

        Scenario() {
        }

        int append(int code) {
            if (length < 0 || length >= MAX_TEXT) {
                return FULL;
            }
            text[length] = (char) code;
            length++;
            return length;
        }

        /** Makes a state from the text; tells the fault of the text, NONE if it has none. */
        int readInto(State target) {
            target.startAnew();
            fault = NONE;
            tokenEnd = 0;
            nextToken();
            takeItem(target);
            for (int taken = 0; taken < MAX_TEXT && fault == NONE && !atEnd(); taken++) {
                takeSeparator();
                takeItem(target);
            }
            return fault;
        }

        private int at(int position) {
            return position >= 0 && position < length && position < MAX_TEXT ? text[position] : -1;
        }

        private static boolean isLetter(int code) {
            return code >= 'a' && code <= 'z';
        }

        private static boolean isDigit(int code) {
            return code >= '0' && code <= '9';
        }

        private void nextToken() {
            tokenStart = tokenEnd;
            while (tokenStart < length && at(tokenStart) == ' ') {
                tokenStart++;
            }
            boolean letters = isLetter(at(tokenStart));
            boolean digits = isDigit(at(tokenStart));
            tokenEnd = tokenStart < length ? tokenStart + 1 : length;
            while (tokenEnd < length && (letters && isLetter(at(tokenEnd)) || digits && isDigit(at(tokenEnd)))) {
                tokenEnd++;
            }
        }

        private boolean atEnd() {
            return tokenStart >= length;
        }

        private boolean isWord(String word) {
            if (tokenEnd - tokenStart != word.length()) {
                return false;
            }
            for (int i = 0; i < word.length(); i++) {
                if (at(tokenStart + i) != word.charAt(i)) {
                    return false;
                }
            }
            return true;
        }

        /** After the first fault nothing is taken any more, so that the first one stays. */
        private void reject() {
            if (fault == NONE) {
                fault = tokenStart;
            }
        }

        private boolean takeWord(String word) {
            if (fault != NONE || !isWord(word)) {
                return false;
            }
            nextToken();
            return true;
        }

        private void takeSeparator() {
            if (!takeWord(";")) {
                reject();
            }
        }

        private int takeNumber(int low, int high) {
            return takeValue(1, low, high);
        }

        private int takeSigned(int low, int high) {
            return takeValue(takeWord("-") ? -1 : 1, low, high);
        }

        private int takeValue(int sign, int low, int high) {
            int digits = tokenEnd - tokenStart;
            if (fault != NONE || digits > 3 || !isDigit(at(tokenStart))) {
                reject();
                return low;
            }
            int value = 0;
            for (int i = tokenStart; i < tokenEnd; i++) {
                value = 10 * value + at(i) - '0';
            }
            value = sign * value;
            if (!within(value, low, high)) {
                reject();
                return low;
            }
            nextToken();
            return value;
        }

        private void takeItem(State target) {
            if (isWord("path") && target.pathCount >= MAX_PATHS) {
                reject();
            } else if (takeWord("path")) {
                takePath(target);
            } else if (takeWord("station")) {
                takeStation(target);
            } else if (takeWord("threshold")) {
                target.threshold = takeSigned(-200, 200);
            } else if (takeWord("fade")) {
                target.fade = takeNumber(0, 60);
            } else if (takeWord("patience")) {
                target.patience = takeNumber(1, 9);
            } else {
                reject();
            }
        }

        private void takePath(State target) {
            int at0 = takeNumber(0, 63);
            int at1 = takeNumber(0, 63);
            int loss = takeNumber(0, 300);
            boolean drifts = takeWord("drift");
            int drift0 = drifts ? takeSigned(-3, 3) : 0;
            int drift1 = drifts ? takeSigned(-3, 3) : 0;
            target.appendPath(at0, at1, loss, drift0, drift1);
        }

        private void takeStation(State target) {
            int number = takeNumber(0, 1);
            int sectors = takeNumber(2, MAX_SECTORS);
            int orientation = takeNumber(0, 63);
            int power = takeNumber(0, 100);
            target.setUpStation(number, sectors, orientation, power);
        }
    }
}
