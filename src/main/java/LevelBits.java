import java.util.Arrays;
import java.util.NoSuchElementException;

/** Levels turned into a quick stream of few values; ../shared/DOC.md says what each call answers. */
public final class LevelBits {
    public static final int NONE = -1;
    public static final int NOTHING = -1000000000;

    /** Answered where something isn't there though the call isn't refused. */
    private static final int UNSEEN = -2;

    private static final int NO_SUCH = 1;
    private static final int BAD_NUMBER = 2;
    private static final int NO_ROOM = 3;
    private static final int FAULTY = 4;
    private static final int NOT_SO = 5;

    private static final int MOST_BYTES = 600;
    private static final int MOST_STAGES = 3;
    private static final int MOST_LINES = 4;
    private static final int MOST_PIECES = 8;
    private static final int MOST_LETTERS = 6;
    private static final int MOST_DIGITS = 4;
    private static final int MOST_CLOCKS = 4096;
    private static final int MOST_AT_ONCE = 500;
    private static final int MOST_LEVEL = 1000;
    private static final int MOST_SEED = 65535;
    private static final int MOST_LAG = 1000;
    private static final int MOST_TONE = 200;
    private static final int MOST_ORDER = 3;
    private static final int MOST_BY = 32;
    private static final int MOST_SWEPT = 50;
    private static final int CYCLE_LIMIT = 3000;
    private static final int STEADY_CLOCKS = 1000;
    private static final int STEADY_STEP = 50;

    private final Run run = new Run();
    private final Image[] images = {new Image(), new Image()};
    private final Weights weights = new Weights();
    private final Cycle found = new Cycle();
    private final Core one = new Core();
    private final Core two = new Core();
    private final Reader reader = new Reader();
    private Plan plan = new Plan();
    private boolean hasText;
    private int taped;
    private int seeded = 1;
    private int latestFault;
    private int place = NONE;
    private int latestTrouble;

    public LevelBits() {
    }

    // ---- texts

    public int feed(int a, int b, int c, int d, int e) {
        if (taped + 20 > MOST_BYTES) {
            return NONE;
        }
        tapeNumber(a);
        tapeNumber(b);
        tapeNumber(c);
        tapeNumber(d);
        tapeNumber(e);
        return taped;
    }

    public int text(int n) {
        if (n < 0 || n > taped) {
            return refused(BAD_NUMBER, NONE);
        }
        taped = 0;
        boolean read = reader.readText(n);
        latestFault = reader.fault;
        if (!read) {
            refused(FAULTY, NONE);
            place = reader.place;
            return NONE;
        }
        takePlan();
        return granted(plan.loops);
    }

    public int fault() {
        return latestFault;
    }

    public int where() {
        return place;
    }

    public int about(int what) {
        if (!hasText || what < 0 || what > 1) {
            return refused(NO_SUCH, NONE);
        }
        return granted(what == 0 ? plan.loops : plan.waves);
    }

    public int loop(int l, int what) {
        Loop loop = plan.loopAt(l);
        if (loop == null || what < 0 || what > 6) {
            return refused(NO_SUCH, NONE);
        }
        return granted(loop.property(what));
    }

    public int wave(int w, int what) {
        Wave wave = plan.waveAt(w);
        if (wave == null || what < 0 || what > 3) {
            return refused(NO_SUCH, NOTHING);
        }
        return granted(wave.property(what));
    }

    public int level(int w, int t) {
        Wave wave = plan.waveAt(w);
        if (wave == null) {
            return refused(NO_SUCH, NOTHING);
        }
        if (t < 0) {
            return refused(BAD_NUMBER, NOTHING);
        }
        return granted(wave.levelAt(t));
    }

    // ---- the run

    public boolean seed(int v) {
        if (v < 1 || v > MOST_SEED) {
            return isRefused(BAD_NUMBER);
        }
        seeded = v;
        return isGranted();
    }

    public boolean begin(int l, int w) {
        if (plan.loopAt(l) == null || plan.waveAt(w) == null) {
            return isRefused(NO_SUCH);
        }
        run.start(plan, l, w, seeded);
        return isGranted();
    }

    public int run(int n) {
        if (!run.going) {
            return refused(NO_SUCH, NOTHING);
        }
        if (n < 1 || n > MOST_AT_ONCE) {
            return refused(BAD_NUMBER, NOTHING);
        }
        if (run.clocks + n > MOST_CLOCKS) {
            return refused(NO_ROOM, NOTHING);
        }
        return granted(run.go(n));
    }

    public int now(int what) {
        if (!run.going || what < 0 || what > 4) {
            return refused(NO_SUCH, NONE);
        }
        return granted(run.property(what));
    }

    public int sum(int stage) {
        if (!run.hasStage(stage)) {
            return refused(NO_SUCH, NOTHING);
        }
        return granted(run.core.sums[stage]);
    }

    public int size(int stage) {
        if (!run.hasStage(stage)) {
            return refused(NO_SUCH, NONE);
        }
        return granted(run.sizes[stage]);
    }

    public int out(int t) {
        if (!run.going) {
            return refused(NO_SUCH, NOTHING);
        }
        if (!run.hasStretch(t, t)) {
            return refused(BAD_NUMBER, NOTHING);
        }
        return granted(run.outs[t]);
    }

    // ---- stretches

    public int often(int value, int a, int b) {
        if (!run.going) {
            return refused(NO_SUCH, NONE);
        }
        if (!isValue(value) || !run.hasStretch(a, b)) {
            return refused(BAD_NUMBER, NONE);
        }
        return granted(run.countOf(value, a, b));
    }

    public int astray(int a, int b) {
        if (!run.going) {
            return refused(NO_SUCH, NOTHING);
        }
        if (!run.hasStretch(a, b)) {
            return refused(BAD_NUMBER, NOTHING);
        }
        return granted(run.gapsAdded(a, b));
    }

    public int rows(int a, int b, int what) {
        if (!run.going || what < 0 || what > 1) {
            return refused(NO_SUCH, NONE);
        }
        if (!run.hasStretch(a, b)) {
            return refused(BAD_NUMBER, NONE);
        }
        return granted(what == 0 ? run.longestRow(a, b) : run.changes(a, b));
    }

    public int like(int a, int b, int lag) {
        if (!run.going) {
            return refused(NO_SUCH, NONE);
        }
        if (!run.hasStretch(a, b) || lag < 1 || lag > MOST_LAG) {
            return refused(BAD_NUMBER, NONE);
        }
        return granted(run.likePairs(a, b, lag));
    }

    public int tone(int a, int b, int most) {
        if (!run.going) {
            return refused(NO_SUCH, NONE);
        }
        if (!run.hasStretch(a, b) || most < 1 || most > MOST_TONE) {
            return refused(BAD_NUMBER, NONE);
        }
        return granted(run.bestLag(a, b, most));
    }

    public int nth(int value, int i) {
        if (!run.going) {
            return refused(NO_SUCH, NONE);
        }
        if (!isValue(value) || i < 0) {
            return refused(BAD_NUMBER, NONE);
        }
        return granted(run.clockOf(value, i));
    }

    public int mean(int a, int b, int what) {
        if (!run.going || what < 0 || what > 1) {
            return refused(NO_SUCH, NOTHING);
        }
        if (!run.hasStretch(a, b)) {
            return refused(BAD_NUMBER, NOTHING);
        }
        int above = run.outsAdded(a, b);
        int below = b - a + 1;
        int shared = greatestDivisor(Math.abs(above), below);
        return granted((what == 0 ? above : below) / shared);
    }

    public int octet(int i) {
        if (!run.going) {
            return refused(NO_SUCH, NONE);
        }
        if (i < 0 || i >= run.clocks / 8) {
            return refused(BAD_NUMBER, NONE);
        }
        return granted(run.eightBits(8 * i));
    }

    // ---- summed

    public int summed(int m, int by) {
        if (!run.going) {
            return refused(NO_SUCH, NONE);
        }
        if (!isSumming(m, by)) {
            return refused(BAD_NUMBER, NONE);
        }
        return granted(run.summedMany(m, by));
    }

    public int summedAt(int m, int by, int i) {
        if (!run.going) {
            return refused(NO_SUCH, NOTHING);
        }
        if (!isSumming(m, by) || i < 0 || i >= run.summedMany(m, by)) {
            return refused(BAD_NUMBER, NOTHING);
        }
        weights.prepare(m, by);
        return granted(run.weighedOuts(weights, i * by));
    }

    public int worst(int m, int by) {
        if (!run.going) {
            return refused(NO_SUCH, NONE);
        }
        if (!isSumming(m, by)) {
            return refused(BAD_NUMBER, NONE);
        }
        int many = run.summedMany(m, by);
        if (many == 0) {
            return refused(NOT_SO, NONE);
        }
        weights.prepare(m, by);
        int worst = 0;
        for (int i = 0; i < many; i++) {
            worst = Math.max(worst, Math.abs(run.weighedGaps(weights, i * by)));
        }
        return granted(worst);
    }

    // ---- cycles; on paper

    public int cycle(int l, int level, int what) {
        Loop loop = plan.loopAt(l);
        if (loop == null || what < 0 || what > 5) {
            return refused(NO_SUCH, NOTHING);
        }
        if (!isLevel(level)) {
            return refused(BAD_NUMBER, NOTHING);
        }
        if (!found.find(loop, level)) {
            return refused(NOT_SO, NOTHING);
        }
        return granted(what == 0 ? clocksAhead(loop, level, found.lasting) : found.property(what));
    }

    public int fed(int l, int stage, int level, int k) {
        Loop loop = plan.loopAt(l);
        if (loop == null || stage < 0 || stage >= loop.stages) {
            return refused(NO_SUCH, NOTHING);
        }
        if (!isLevel(level) || k < 0 || k > CYCLE_LIMIT) {
            return refused(BAD_NUMBER, NOTHING);
        }
        one.startQuiet(loop);
        one.clockOften(level, k);
        return granted(one.sums[stage]);
    }

    public int sweep(int l, int from, int step, int many, int what) {
        Loop loop = plan.loopAt(l);
        if (loop == null || what < 0 || what > 2) {
            return refused(NO_SUCH, NOTHING);
        }
        if (!isSweep(from, step, many)) {
            return refused(BAD_NUMBER, NOTHING);
        }
        return granted(what == 2 ? longestOf(loop, from, step, many) : cyclesOf(loop, from, step, many, what == 1));
    }

    public int steady(int l) {
        Loop loop = plan.loopAt(l);
        if (loop == null) {
            return refused(NO_SUCH, NONE);
        }
        int greatest = UNSEEN;
        for (int level = 0; level <= MOST_LEVEL && staysUnclipped(loop, level); level += STEADY_STEP) {
            greatest = level;
        }
        return granted(greatest);
    }

    public int apart(int l, int k, int w, int n) {
        Loop first = plan.loopAt(l);
        Loop second = plan.loopAt(k);
        Wave wave = plan.waveAt(w);
        if (first == null || second == null || wave == null) {
            return refused(NO_SUCH, NONE);
        }
        if (n < 1 || n > MOST_AT_ONCE) {
            return refused(BAD_NUMBER, NONE);
        }
        one.start(first, seeded);
        two.start(second, seeded);
        int unlike = 0;
        for (int t = 0; t < n; t++) {
            int level = wave.levelAt(t);
            unlike += one.clock(level) != two.clock(level) ? 1 : 0;
        }
        return granted(unlike);
    }

    // ---- images

    public boolean keep(int k) {
        if (!hasText || k < 0 || k >= images.length) {
            return isRefused(NO_SUCH);
        }
        images[k].take(run, seeded);
        return isGranted();
    }

    public boolean back(int k) {
        if (k < 0 || k >= images.length || !images[k].kept) {
            return isRefused(NO_SUCH);
        }
        images[k].give(run, plan);
        seeded = images[k].seeded;
        return isGranted();
    }

    // ---- what is told

    public int letter(int kind, int i, int k) throws NoSuchElementException {
        int name = kind == 0 || kind == 1 ? plan.nameOf(kind, i) : 0;
        int letter = letterOf(name, k);
        if (letter < 0) {
            throw new NoSuchElementException();
        }
        return letter;
    }

    public int bytes() {
        return taped;
    }

    public int trouble() {
        return latestTrouble;
    }

    // ---- what the calls share

    private int refused(int number, int answer) {
        latestTrouble = number;
        place = NONE;
        return answer;
    }

    private int granted(int answer) {
        latestTrouble = 0;
        place = NONE;
        return answer;
    }

    private boolean isRefused(int number) {
        refused(number, NONE);
        return false;
    }

    private boolean isGranted() {
        granted(NONE);
        return true;
    }

    private void tapeNumber(int number) {
        for (int shift = 24; shift >= 0 && taped < reader.tape.length; shift -= 8) {
            reader.tape[taped] = (byte) (number >> shift);
            taped++;
        }
    }

    /** The two plans change places, so that a text that is refused never touches the one that stands. */
    private void takePlan() {
        Plan old = plan;
        plan = reader.plan;
        reader.plan = old;
        hasText = true;
        run.going = false;
        for (int k = 0; k < images.length; k++) {
            images[k].kept = false;
        }
    }

    private int clocksAhead(Loop loop, int level, int lasting) {
        one.startQuiet(loop);
        two.startQuiet(loop);
        two.clockOften(level, lasting);
        int ahead = 0;
        while (ahead < CYCLE_LIMIT && !one.isAt(two.sums)) {
            one.clock(level);
            two.clock(level);
            ahead++;
        }
        return ahead;
    }

    private int cyclesOf(Loop loop, int from, int step, int many, boolean unclipped) {
        int cycles = 0;
        for (int i = 0; i < many; i++) {
            if (found.find(loop, from + step * i) && !(unclipped && found.clips > 0)) {
                cycles++;
            }
        }
        return cycles;
    }

    private int longestOf(Loop loop, int from, int step, int many) {
        int longest = 0;
        int answer = NOTHING;
        for (int i = 0; i < many; i++) {
            int level = from + step * i;
            if (found.find(loop, level) && found.lasting > longest) {
                longest = found.lasting;
                answer = level;
            }
        }
        return answer;
    }

    private boolean staysUnclipped(Loop loop, int level) {
        one.startQuiet(loop);
        for (int t = 0; t < STEADY_CLOCKS && one.clips == 0; t++) {
            one.clock(level);
        }
        return one.clips == 0;
    }

    private static boolean isValue(int value) {
        return value >= -1 && value <= 1;
    }

    private static boolean isLevel(long level) {
        return level >= -MOST_LEVEL && level <= MOST_LEVEL;
    }

    private static boolean isSumming(int m, int by) {
        return m >= 1 && m <= MOST_ORDER && by >= 2 && by <= MOST_BY;
    }

    /** Levels go one way only, so the first and the last tell of all; long, as step may be any int. */
    private static boolean isSweep(int from, int step, int many) {
        return many >= 1 && many <= MOST_SWEPT && isLevel(from) && isLevel(from + (long) step * (many - 1));
    }

    /** Of a above or at 0 and b above 0; never below 1, so that it may divide. */
    private static int greatestDivisor(int a, int b) {
        int more = b;
        int less = a;
        for (int i = 0; i < 64 && less > 0; i++) {
            int rest = more % less;
            more = less;
            less = rest;
        }
        return Math.max(1, more);
    }

    /** A word as one number: five bits a letter, 1 .. 26, the first letter's lowest; 0 behind the last. */
    private static int packed(String word) {
        int number = 0;
        for (int k = 0; k < word.length() && k < MOST_LETTERS; k++) {
            number |= (word.charAt(k) - 'a' + 1) << 5 * k;
        }
        return number;
    }

    private static int letterOf(int name, int k) {
        return k < 0 || k >= MOST_LETTERS ? NONE : (name >> 5 * k & 31) - 1;
    }

    /** A LOOP as the text tells it. */
    private static final class Loop {
        private final int[] factors = new int[MOST_STAGES];
        private int name;
        private int stages;
        private int bound;
        private int noise;
        private boolean three;

        private void clear() {
            Arrays.fill(factors, 0);
            name = 0;
            stages = 0;
            bound = 0;
            noise = 0;
            three = false;
        }

        private boolean addStage(int factor) {
            if (stages >= MOST_STAGES) {
                return false;
            }
            factors[stages] = factor;
            stages++;
            return true;
        }

        private int property(int what) {
            switch (what) {
                case 0:
                    return stages;
                case 4:
                    return bound;
                case 5:
                    return three ? 3 : 2;
                case 6:
                    return noise;
                default:
                    return what >= 1 && what <= MOST_STAGES ? factors[what - 1] : 0;
            }
        }

        private int valueOf(int q) {
            if (!three) {
                return q >= 0 ? 1 : -1;
            }
            return q >= 500 ? 1 : q <= -500 ? -1 : 0;
        }
    }

    /** A WAVE as the text tells it. */
    private static final class Wave {
        private static final int HOLD = 0;
        private static final int RAMP = 1;
        private static final int SWING = 2;

        private final int[] kinds = new int[MOST_PIECES];
        private final int[] starts = new int[MOST_PIECES];
        /** Where a ramp goes to; every how many clocks a swing comes again. */
        private final int[] seconds = new int[MOST_PIECES];
        private final int[] lengths = new int[MOST_PIECES];
        private int name;
        private int pieces;
        private int clocks;

        private void clear() {
            name = 0;
            pieces = 0;
            clocks = 0;
        }

        private void addPiece(int kind, int start, int second, int length) {
            if (pieces >= MOST_PIECES) {
                return;
            }
            kinds[pieces] = kind;
            starts[pieces] = start;
            seconds[pieces] = second;
            lengths[pieces] = length;
            pieces++;
            clocks += length;
        }

        private int property(int what) {
            switch (what) {
                case 0:
                    return pieces;
                case 1:
                    return clocks;
                case 2:
                    return least();
                default:
                    return greatest();
            }
        }

        private int least() {
            int least = MOST_LEVEL;
            for (int t = 0; t < clocks; t++) {
                least = Math.min(least, levelAt(t));
            }
            return least;
        }

        private int greatest() {
            int greatest = -MOST_LEVEL;
            for (int t = 0; t < clocks; t++) {
                greatest = Math.max(greatest, levelAt(t));
            }
            return greatest;
        }

        private int levelAt(int t) {
            int k = clocks > 0 ? Math.floorMod(t, clocks) : 0;
            for (int p = 0; p < pieces; p++) {
                if (k < lengths[p]) {
                    return levelIn(p, k);
                }
                k -= lengths[p];
            }
            return 0;
        }

        private int levelIn(int p, int k) {
            int start = starts[p];
            int second = seconds[p];
            if (kinds[p] == RAMP && lengths[p] > 0) {
                return start + Math.floorDiv((second - start) * k, lengths[p]);
            }
            if (kinds[p] == SWING && second > 0) {
                int h = k % second;
                int e = Math.min(h, second - h);
                return Math.floorDiv(start * (second - 4 * e), second);
            }
            return start;
        }
    }

    /** All that one TEXT tells. */
    private static final class Plan {
        private final Loop[] loopRow = {new Loop(), new Loop(), new Loop(), new Loop()};
        private final Wave[] waveRow = {new Wave(), new Wave(), new Wave(), new Wave()};
        private int loops;
        private int waves;

        private void clear() {
            loops = 0;
            waves = 0;
        }

        private Loop addLoop() {
            if (loops >= MOST_LINES) {
                return null;
            }
            Loop added = loopRow[loops];
            added.clear();
            loops++;
            return added;
        }

        private Wave addWave() {
            if (waves >= MOST_LINES) {
                return null;
            }
            Wave added = waveRow[waves];
            added.clear();
            waves++;
            return added;
        }

        private Loop loopAt(int l) {
            return l >= 0 && l < loops ? loopRow[l] : null;
        }

        private Wave waveAt(int w) {
            return w >= 0 && w < waves ? waveRow[w] : null;
        }

        private int nameOf(int kind, int i) {
            if (kind == 0) {
                Loop loop = loopAt(i);
                return loop == null ? 0 : loop.name;
            }
            Wave wave = waveAt(i);
            return wave == null ? 0 : wave.name;
        }

        private boolean hasName(int name) {
            for (int i = 0; i < MOST_LINES; i++) {
                if (nameOf(0, i) == name || nameOf(1, i) == name) {
                    return true;
                }
            }
            return false;
        }
    }

    /** THE TAPE, read token by token up to the first fault; each of the steps is false at a fault. */
    private static final class Reader {
        private static final int END = 0;
        private static final int WORD = 1;
        private static final int WHOLE = 2;
        private static final int MARK = 3;
        private static final int BAD = 4;

        private static final int FORM = 1;
        private static final int BOUNDS = 2;
        private static final int AGAIN = 3;
        private static final int TOO_MANY = 4;

        private final byte[] tape = new byte[MOST_BYTES];
        /** What is read goes there. */
        private Plan plan = new Plan();
        private int end;
        private int at;
        /** The token that comes next: its kind, its first byte's place, its word, whole or mark. */
        private int kind;
        private int start;
        private int value;
        /** What the latest step took: a number or a name. */
        private int taken;
        private int fault;
        private int place;

        private boolean readText(int n) {
            plan.clear();
            end = Math.min(n, tape.length);
            at = 0;
            fault = 0;
            step();
            boolean more = true;
            for (int line = 0; line < MOST_BYTES && more; line++) {
                more = isWord("loop") ? readLoop() : isWord("wave") ? readWave() : failed(FORM);
                if (more && kind == END) {
                    return true;
                }
                more = more && takeMark(';');
            }
            return false;
        }

        private boolean readLoop() {
            Loop loop = plan.addLoop();
            if (loop == null) {
                return failed(TOO_MANY);
            }
            step();
            if (!takeName()) {
                return false;
            }
            loop.name = taken;
            if (!takeWord("by") || !readFactors(loop)) {
                return false;
            }
            if (!takeWord("bound") || !takeNumber(1000, 9999)) {
                return false;
            }
            loop.bound = taken;
            loop.three = isWord("three");
            if (loop.three) {
                step();
            }
            return !isWord("noise") || readNoise(loop);
        }

        private boolean readFactors(Loop loop) {
            boolean more = true;
            for (int i = 0; i <= MOST_STAGES && more; i++) {
                int from = start;
                if (!takeNumber(1, 32)) {
                    return false;
                }
                if (!loop.addStage(taken)) {
                    return failedAt(TOO_MANY, from);
                }
                more = kind == WHOLE;
            }
            return true;
        }

        private boolean readNoise(Loop loop) {
            step();
            if (!takeNumber(1, 999)) {
                return false;
            }
            loop.noise = taken;
            return true;
        }

        private boolean readWave() {
            Wave wave = plan.addWave();
            if (wave == null) {
                return failed(TOO_MANY);
            }
            step();
            if (!takeName()) {
                return false;
            }
            wave.name = taken;
            boolean more = readPiece(wave);
            for (int i = 0; i <= MOST_PIECES && more && isMark(','); i++) {
                step();
                more = readPiece(wave);
            }
            return more;
        }

        private boolean readPiece(Wave wave) {
            int piece = isWord("hold") ? Wave.HOLD : isWord("ramp") ? Wave.RAMP : Wave.SWING;
            if (piece == Wave.SWING && !isWord("swing")) {
                return failed(FORM);
            }
            if (wave.pieces >= MOST_PIECES) {
                return failed(TOO_MANY);
            }
            step();
            if (!takeNumber(-MOST_LEVEL, MOST_LEVEL)) {
                return false;
            }
            int first = taken;
            if (piece == Wave.RAMP && !(takeWord("to") && takeNumber(-MOST_LEVEL, MOST_LEVEL))) {
                return false;
            }
            if (piece == Wave.SWING && !(takeWord("every") && takeNumber(2, 99))) {
                return false;
            }
            int second = taken;
            if (!takeWord("for") || !takeNumber(1, 500)) {
                return false;
            }
            wave.addPiece(piece, first, second, taken);
            return true;
        }

        private boolean takeWord(String word) {
            if (!isWord(word)) {
                return failed(FORM);
            }
            step();
            return true;
        }

        private boolean takeMark(char mark) {
            if (!isMark(mark)) {
                return failed(FORM);
            }
            step();
            return true;
        }

        private boolean takeName() {
            if (kind != WORD || isReserved()) {
                return failed(FORM);
            }
            if (plan.hasName(value)) {
                return failed(AGAIN);
            }
            taken = value;
            step();
            return true;
        }

        /** A number may bear a - only where numbers below 0 are within its bounds. */
        private boolean takeNumber(int least, int most) {
            boolean below = least < 0 && isMark('-');
            if (below) {
                step();
            }
            if (kind != WHOLE) {
                return failed(FORM);
            }
            taken = below ? -value : value;
            if (taken < least || taken > most) {
                return failed(BOUNDS);
            }
            step();
            return true;
        }

        private boolean isReserved() {
            return isWord("loop") || isWord("wave") || isWord("by") || isWord("bound")
                || isWord("three") || isWord("noise") || isWord("hold") || isWord("ramp")
                || isWord("swing") || isWord("to") || isWord("every") || isWord("for");
        }

        private boolean isWord(String word) {
            return kind == WORD && value == packed(word);
        }

        private boolean isMark(char mark) {
            return kind == MARK && value == mark;
        }

        private boolean failed(int number) {
            return failedAt(number, start);
        }

        private boolean failedAt(int number, int from) {
            fault = number;
            place = from;
            return false;
        }

        private void step() {
            while (at < end && tape[at] == ' ') {
                at++;
            }
            start = at;
            if (at >= end) {
                kind = END;
            } else if (tape[at] >= 'a' && tape[at] <= 'z') {
                scanWord();
            } else if (tape[at] >= '0' && tape[at] <= '9') {
                scanWhole();
            } else {
                value = tape[at];
                kind = value == ';' || value == ',' || value == '-' ? MARK : BAD;
                at++;
            }
        }

        private void scanWord() {
            int letters = 0;
            value = 0;
            while (at < end && tape[at] >= 'a' && tape[at] <= 'z') {
                if (letters < MOST_LETTERS) {
                    value |= (tape[at] - 'a' + 1) << 5 * letters;
                }
                letters++;
                at++;
            }
            kind = letters > MOST_LETTERS ? BAD : WORD;
        }

        private void scanWhole() {
            int digits = 0;
            value = 0;
            while (at < end && tape[at] >= '0' && tape[at] <= '9') {
                if (digits < MOST_DIGITS) {
                    value = value * 10 + tape[at] - '0';
                }
                digits++;
                at++;
            }
            kind = digits > MOST_DIGITS ? BAD : WHOLE;
        }
    }

    /** A LOOP at work: its SUMS, its REGISTER, the CLIPS so far. */
    private static final class Core {
        private final int[] sums = new int[MOST_STAGES];
        private Loop loop = new Loop();
        private int noise;
        private int register = 1;
        private int clips;

        private void start(Loop started, int seed) {
            loop = started;
            noise = started.noise;
            register = seed;
            clips = 0;
            Arrays.fill(sums, 0);
        }

        private void startQuiet(Loop started) {
            start(started, 1);
            noise = 0;
        }

        private int clock(int level) {
            int value = loop.valueOf(lastSum() + stirred());
            int ahead = level;
            for (int s = 0; s < loop.stages; s++) {
                // by 16 as a shift, since that goes downwards below 0, too
                sums[s] = held(sums[s] + (loop.factors[s] * (ahead - 1000 * value) >> 4));
                ahead = sums[s];
            }
            return value;
        }

        private void clockOften(int level, int many) {
            for (int t = 0; t < many; t++) {
                clock(level);
            }
        }

        private int lastSum() {
            return loop.stages > 0 ? sums[loop.stages - 1] : 0;
        }

        /** Steps the REGISTER, if there is NOISE, and tells Z. */
        private int stirred() {
            if (noise == 0) {
                return 0;
            }
            int b = (register ^ register >> 2 ^ register >> 3 ^ register >> 5) & 1;
            register = register / 2 + 32768 * b;
            return (register & 1) == 1 ? noise : -noise;
        }

        private int held(int sum) {
            int within = Math.max(-loop.bound, Math.min(loop.bound, sum));
            if (within != sum) {
                clips++;
            }
            return within;
        }

        private boolean isAt(int[] others) {
            for (int s = 0; s < sums.length && s < others.length; s++) {
                if (sums[s] != others[s]) {
                    return false;
                }
            }
            return true;
        }
    }

    /** THE RUN. */
    private static final class Run {
        private final Core core = new Core();
        private final byte[] outs = new byte[MOST_CLOCKS];
        /** 1,000 times the OUT less the LEVEL of each clock: all that is asked of the LEVELS fed. */
        private final int[] gaps = new int[MOST_CLOCKS];
        private final int[] sizes = new int[MOST_STAGES];
        private Wave wave = new Wave();
        private boolean going;
        private int loopNumber;
        private int waveNumber;
        private int seed;
        private int clocks;

        /** Of numbers that the plan has. */
        private void start(Plan plan, int l, int w, int seeded) {
            Loop loop = plan.loopAt(l);
            Wave fed = plan.waveAt(w);
            if (loop == null || fed == null) {
                return;
            }
            core.start(loop, seeded);
            wave = fed;
            loopNumber = l;
            waveNumber = w;
            seed = seeded;
            clocks = 0;
            Arrays.fill(sizes, 0);
            going = true;
        }

        private int go(int n) {
            int added = 0;
            for (int i = 0; i < n && clocks < MOST_CLOCKS; i++) {
                int level = wave.levelAt(clocks);
                int value = core.clock(level);
                outs[clocks] = (byte) value;
                gaps[clocks] = 1000 * value - level;
                clocks++;
                added += value;
                noteSizes();
            }
            return added;
        }

        private void noteSizes() {
            for (int s = 0; s < sizes.length; s++) {
                sizes[s] = Math.max(sizes[s], Math.abs(core.sums[s]));
            }
        }

        private int property(int what) {
            switch (what) {
                case 0:
                    return loopNumber;
                case 1:
                    return waveNumber;
                case 2:
                    return clocks;
                case 3:
                    return core.register;
                default:
                    return core.clips;
            }
        }

        private boolean hasStage(int stage) {
            return going && stage >= 0 && stage < core.loop.stages;
        }

        private boolean hasStretch(int a, int b) {
            return a >= 0 && a <= b && b < clocks;
        }

        private int countOf(int value, int a, int b) {
            int many = 0;
            for (int t = a; t <= b; t++) {
                many += outs[t] == value ? 1 : 0;
            }
            return many;
        }

        private int gapsAdded(int a, int b) {
            int added = 0;
            for (int t = a; t <= b; t++) {
                added += gaps[t];
            }
            return added;
        }

        private int outsAdded(int a, int b) {
            int added = 0;
            for (int t = a; t <= b; t++) {
                added += outs[t];
            }
            return added;
        }

        private int longestRow(int a, int b) {
            int longest = 1;
            int row = 1;
            for (int t = a + 1; t <= b; t++) {
                row = outs[t] == outs[t - 1] ? row + 1 : 1;
                longest = Math.max(longest, row);
            }
            return longest;
        }

        private int changes(int a, int b) {
            int many = 0;
            for (int t = a + 1; t <= b; t++) {
                many += outs[t] != outs[t - 1] ? 1 : 0;
            }
            return many;
        }

        private int likePairs(int a, int b, int lag) {
            int many = 0;
            for (int t = a; t + lag <= b; t++) {
                many += outs[t] == outs[t + lag] ? 1 : 0;
            }
            return many;
        }

        /** Parts are held against one another crosswise, so that nothing is lost by a division. */
        private int bestLag(int a, int b, int most) {
            int best = UNSEEN;
            int bestLike = 0;
            int bestPairs = 0;
            for (int lag = 1; lag <= most && a + lag <= b; lag++) {
                int pairs = b - a + 1 - lag;
                int like = likePairs(a, b, lag);
                if (best == UNSEEN || like * bestPairs > bestLike * pairs) {
                    best = lag;
                    bestLike = like;
                    bestPairs = pairs;
                }
            }
            return best;
        }

        private int clockOf(int value, int i) {
            int seen = 0;
            for (int t = 0; t < clocks; t++) {
                if (outs[t] == value) {
                    if (seen == i) {
                        return t;
                    }
                    seen++;
                }
            }
            return UNSEEN;
        }

        private int eightBits(int from) {
            int bits = 0;
            for (int t = from; t < from + 8; t++) {
                bits = bits * 2 + (outs[t] == 1 ? 1 : 0);
            }
            return bits;
        }

        private int summedMany(int m, int by) {
            int lastTaken = m * (by - 1);
            return by < 1 || lastTaken >= clocks ? 0 : (clocks - 1 - lastTaken) / by + 1;
        }

        private int weighedOuts(Weights weights, int from) {
            int added = 0;
            for (int j = 0; j < weights.many; j++) {
                added += weights.row[j] * outs[from + j];
            }
            return added;
        }

        private int weighedGaps(Weights weights, int from) {
            int added = 0;
            for (int j = 0; j < weights.many; j++) {
                added += weights.row[j] * gaps[from + j];
            }
            return added;
        }
    }

    /** How often each clock is taken by one SUMMED: sums of sums done once instead of row by row. */
    private static final class Weights {
        private final int[] row = new int[MOST_ORDER * (MOST_BY - 1) + 1];
        private int many;

        private void prepare(int m, int by) {
            Arrays.fill(row, 0);
            row[0] = 1;
            many = 1;
            for (int order = 0; order < m && many + by - 1 <= row.length; order++) {
                many += by - 1;
                addUp(by);
            }
        }

        /** From the right on, as each new weight takes old ones left of it alone. */
        private void addUp(int by) {
            for (int j = many - 1; j >= 0; j--) {
                int added = 0;
                for (int i = 0; i < by && i <= j; i++) {
                    added += row[j - i];
                }
                row[j] = added;
            }
        }
    }

    /**
     * The CYCLE of a LOOP. A walk is held against an anchor that moves up to clocks 1, 2, 4 .. and
     * at last to clock 3,000, which lies in the cycle if there is one: what came since the anchor
     * is the cycle once the anchor's SUMS come again, and all but AHEAD is the same from wherever
     * in the cycle it is counted.
     */
    private static final class Cycle {
        private final Core walker = new Core();
        private final int[] anchor = new int[MOST_STAGES];
        private int lasting;
        private int outsAdded;
        private int clips;
        private int greatest;
        private int changes;
        private int firstValue;
        private int lastValue;

        private boolean find(Loop loop, int level) {
            walker.startQuiet(loop);
            drop();
            int moveAt = 1;
            for (int t = 1; t <= 2 * CYCLE_LIMIT; t++) {
                walk(level);
                if (walker.isAt(anchor)) {
                    clips = walker.clips;
                    changes += firstValue != lastValue ? 1 : 0;
                    return true;
                }
                if (t == moveAt) {
                    drop();
                    moveAt = Math.min(2 * t, CYCLE_LIMIT);
                }
            }
            return false;
        }

        /** The anchor drops where the walk is; what was counted begins anew. */
        private void drop() {
            System.arraycopy(walker.sums, 0, anchor, 0, anchor.length);
            walker.clips = 0;
            lasting = 0;
            outsAdded = 0;
            greatest = 0;
            changes = 0;
        }

        private void walk(int level) {
            greatest = Math.max(greatest, Math.abs(walker.lastSum()));
            int value = walker.clock(level);
            if (lasting == 0) {
                firstValue = value;
            } else if (value != lastValue) {
                changes++;
            }
            lastValue = value;
            outsAdded += value;
            lasting++;
        }

        private int property(int what) {
            switch (what) {
                case 1:
                    return lasting;
                case 2:
                    return outsAdded;
                case 3:
                    return clips;
                case 4:
                    return greatest;
                default:
                    return changes;
            }
        }
    }

    /** An IMAGE: a run is told whole by how it began and how many clocks it had, so no rows are kept. */
    private static final class Image {
        private boolean kept;
        private boolean going;
        private int loopNumber;
        private int waveNumber;
        private int seed;
        private int clocks;
        private int seeded;

        private void take(Run run, int register) {
            kept = true;
            going = run.going;
            loopNumber = run.loopNumber;
            waveNumber = run.waveNumber;
            seed = run.seed;
            clocks = run.clocks;
            seeded = register;
        }

        private void give(Run run, Plan plan) {
            run.going = false;
            if (going) {
                run.start(plan, loopNumber, waveNumber, seed);
                run.go(clocks);
            }
        }
    }
}
