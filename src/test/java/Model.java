import java.math.BigInteger;
import java.util.ArrayList;
import java.util.Arrays;
import java.util.HashMap;
import java.util.List;
import java.util.Map;
import java.util.Set;

/**
 * The document once more, in other ways than the class goes: tokens ahead of all, a table of what
 * may come next, clocks remembered by their sums, rows of rows summed one by one, images as copies.
 */
final class Model {
    static final int NONE = -1;
    static final int NOTHING = -1000000000;

    record LoopTold(String name, List<Integer> factors, int bound, boolean three, int noise) {
    }

    record Piece(String kind, int a, int b, int clocks) {
    }

    record WaveTold(String name, List<Piece> pieces) {
    }

    record Told(List<LoopTold> loops, List<WaveTold> waves) {
    }

    record Token(String kind, String text, int at) {
    }

    record Clocked(int out, List<Integer> sums, int register, int clips) {
    }

    record Running(int loop, int wave, int first, List<Clocked> clocks) {
    }

    record Kept(Running run, int seed) {
    }

    record Found(int ahead, int lasting, List<Clocked> all) {
    }

    private static final Set<String> RESERVED = Set.of("loop", "wave", "by", "bound", "three", "noise",
        "hold", "ramp", "swing", "to", "every", "for");

    private String tape = "";
    private Told told;
    private Running run;
    private final Kept[] kept = new Kept[2];
    private int seed = 1;
    private int fault;
    private int where = NONE;
    private int trouble;

    private int answer(int number, int trouble) {
        this.trouble = trouble;
        where = NONE;
        return number;
    }

    private boolean answer(boolean yes, int trouble) {
        answer(0, trouble);
        return yes;
    }

    // ---- texts

    int feed(int a, int b, int c, int d, int e) {
        if (tape.length() + 20 > 600) {
            return NONE;
        }
        for (int n : new int[] {a, b, c, d, e}) {
            tape += (char) (n >>> 24) + "" + (char) (n >>> 16 & 255) + (char) (n >>> 8 & 255) + (char) (n & 255);
        }
        return tape.length();
    }

    int text(int n) {
        if (n < 0 || n > tape.length()) {
            return answer(NONE, 2);
        }
        String s = tape.substring(0, n);
        tape = "";
        Parser parser = new Parser();
        Told now = parser.parse(s);
        fault = parser.fault;
        if (now == null) {
            answer(NONE, 4);
            where = parser.place;
            return NONE;
        }
        told = now;
        run = null;
        Arrays.fill(kept, null);
        return answer(told.loops.size(), 0);
    }

    static List<Token> tokens(String s) {
        List<Token> all = new ArrayList<>();
        int at = 0;
        while (at < s.length()) {
            char c = s.charAt(at);
            int to = at + 1;
            if (c == ' ') {
                at++;
                continue;
            }
            boolean small = c >= 'a' && c <= 'z';
            boolean digit = c >= '0' && c <= '9';
            if (small || digit) {
                String kin = small ? "abcdefghijklmnopqrstuvwxyz" : "0123456789";
                while (to < s.length() && kin.indexOf(s.charAt(to)) >= 0) {
                    to++;
                }
                boolean good = to - at <= (small ? 6 : 4);
                all.add(new Token(good ? small ? "word" : "whole" : "bad", s.substring(at, to), at));
            } else {
                all.add(new Token(";,-".indexOf(c) >= 0 ? "mark" : "bad", s.substring(at, to), at));
            }
            at = to;
        }
        all.add(new Token("end", "", s.length()));
        return all;
    }

    /** Goes from state to state by single tokens. */
    private static final class Parser {
        private int fault;
        private int place;
        private String state = "line";
        private final List<LoopTold> loops = new ArrayList<>();
        private final List<WaveTold> waves = new ArrayList<>();
        private final List<String> names = new ArrayList<>();
        private String name;
        private List<Integer> factors = new ArrayList<>();
        private int bound;
        private boolean three;
        private int noise;
        private List<Piece> pieces = new ArrayList<>();
        private String kind;
        private int a;
        private int b;
        private int sign = 1;

        private Told parse(String s) {
            for (Token token : tokens(s)) {
                fault = take(token);
                if (fault != 0) {
                    place = token.at;
                    return null;
                }
            }
            return new Told(loops, waves);
        }

        private int take(Token t) {
            if (t.kind.equals("bad")) {
                return 1;
            }
            boolean word = t.kind.equals("word");
            boolean whole = t.kind.equals("whole");
            boolean ends = t.kind.equals("end") || t.text.equals(";");
            int n = whole ? Integer.parseInt(t.text) : 0;
            switch (state) {
                case "line":
                    if (t.text.equals("loop")) {
                        factors = new ArrayList<>();
                        three = false;
                        noise = 0;
                        return loops.size() == 4 ? 4 : go("loop name");
                    }
                    if (t.text.equals("wave")) {
                        pieces = new ArrayList<>();
                        return waves.size() == 4 ? 4 : go("wave name");
                    }
                    return 1;
                case "loop name":
                case "wave name":
                    if (!word || RESERVED.contains(t.text)) {
                        return 1;
                    }
                    if (names.contains(t.text)) {
                        return 3;
                    }
                    name = t.text;
                    names.add(name);
                    return go(state.equals("loop name") ? "by" : "piece");
                case "by":
                    return t.text.equals("by") ? go("factor") : 1;
                case "factor":
                case "factors":
                    if (state.equals("factors") && t.text.equals("bound")) {
                        return go("bound");
                    }
                    if (!whole) {
                        return 1;
                    }
                    if (n < 1 || n > 32) {
                        return 2;
                    }
                    factors.add(n);
                    return factors.size() > 3 ? 4 : go("factors");
                case "bound":
                    bound = n;
                    return !whole ? 1 : n < 1000 ? 2 : go("behind bound");
                case "behind bound":
                case "behind three":
                    if (state.equals("behind bound") && t.text.equals("three")) {
                        three = true;
                        return go("behind three");
                    }
                    if (t.text.equals("noise")) {
                        return go("noise");
                    }
                    return ends ? endLoop() : 1;
                case "noise":
                    noise = n;
                    return !whole ? 1 : n < 1 || n > 999 ? 2 : go("behind noise");
                case "behind noise":
                    return ends ? endLoop() : 1;
                default:
                    return takeOfWave(t, whole, ends, n);
            }
        }

        private int takeOfWave(Token t, boolean whole, boolean ends, int n) {
            switch (state) {
                case "piece":
                    if (!Set.of("hold", "ramp", "swing").contains(t.text)) {
                        return 1;
                    }
                    kind = t.text;
                    sign = 1;
                    return pieces.size() == 8 ? 4 : go("int a");
                case "int a":
                case "int b":
                    if (t.text.equals("-") && sign == 1) {
                        sign = -1;
                        return 0;
                    }
                    if (!whole || n > 1000) {
                        return !whole ? 1 : 2;
                    }
                    if (state.equals("int b")) {
                        b = sign * n;
                        return go("for");
                    }
                    a = sign * n;
                    sign = 1;
                    return go(kind.equals("hold") ? "for" : kind.equals("ramp") ? "to" : "every");
                case "to":
                    return t.text.equals("to") ? go("int b") : 1;
                case "every":
                    return t.text.equals("every") ? go("whole every") : 1;
                case "whole every":
                    b = n;
                    return !whole ? 1 : n < 2 || n > 99 ? 2 : go("for");
                case "for":
                    return t.text.equals("for") ? go("whole for") : 1;
                case "whole for":
                    if (!whole || n < 1 || n > 500) {
                        return !whole ? 1 : 2;
                    }
                    pieces.add(new Piece(kind, a, b, n));
                    return go("behind piece");
                case "behind piece":
                    if (t.text.equals(",")) {
                        return go("piece");
                    }
                    if (!ends) {
                        return 1;
                    }
                    waves.add(new WaveTold(name, pieces));
                    return go("line");
                default:
                    throw new IllegalStateException(state);
            }
        }

        private int endLoop() {
            loops.add(new LoopTold(name, factors, bound, three, noise));
            return go("line");
        }

        private int go(String next) {
            state = next;
            return 0;
        }
    }

    int fault() {
        return fault;
    }

    int where() {
        return where;
    }

    int trouble() {
        return trouble;
    }

    int bytes() {
        return tape.length();
    }

    private boolean noLoop(int l) {
        return told == null || l < 0 || l >= told.loops.size();
    }

    private boolean noWave(int w) {
        return told == null || w < 0 || w >= told.waves.size();
    }

    private static boolean out(int n, int least, int most) {
        return n < least || n > most;
    }

    int about(int what) {
        if (told == null || out(what, 0, 1)) {
            return answer(NONE, 1);
        }
        return answer(what == 0 ? told.loops.size() : told.waves.size(), 0);
    }

    int loop(int l, int what) {
        if (noLoop(l) || out(what, 0, 6)) {
            return answer(NONE, 1);
        }
        LoopTold x = told.loops.get(l);
        List<Integer> all = new ArrayList<>(List.of(x.factors.size()));
        for (int i = 0; i < 3; i++) {
            all.add(i < x.factors.size() ? x.factors.get(i) : 0);
        }
        all.addAll(List.of(x.bound, x.three ? 3 : 2, x.noise));
        return answer(all.get(what), 0);
    }

    static int down(int a, int b) {
        BigInteger[] q = BigInteger.valueOf(a).divideAndRemainder(BigInteger.valueOf(b));
        return q[0].intValue() - (q[1].signum() < 0 ? 1 : 0);
    }

    static List<Integer> levels(WaveTold w) {
        List<Integer> all = new ArrayList<>();
        for (Piece p : w.pieces) {
            for (int k = 0; k < p.clocks; k++) {
                if (p.kind.equals("hold")) {
                    all.add(p.a);
                } else if (p.kind.equals("ramp")) {
                    all.add(p.a + down((p.b - p.a) * k, p.clocks));
                } else {
                    int h = k - k / p.b * p.b;
                    int e = h < p.b - h ? h : p.b - h;
                    all.add(down(p.a * (p.b - 4 * e), p.b));
                }
            }
        }
        return all;
    }

    private final Map<WaveTold, List<Integer>> levelsKept = new HashMap<>();

    private int levelOf(int w, int t) {
        List<Integer> all = levelsKept.computeIfAbsent(told.waves.get(w), Model::levels);
        return all.get(t % all.size());
    }

    int wave(int w, int what) {
        if (noWave(w) || out(what, 0, 3)) {
            return answer(NOTHING, 1);
        }
        List<Integer> all = levels(told.waves.get(w));
        int least = all.stream().mapToInt(n -> n).min().getAsInt();
        int greatest = all.stream().mapToInt(n -> n).max().getAsInt();
        return answer(new int[] {told.waves.get(w).pieces.size(), all.size(), least, greatest}[what], 0);
    }

    int level(int w, int t) {
        if (noWave(w)) {
            return answer(NOTHING, 1);
        }
        return t < 0 ? answer(NOTHING, 2) : answer(levelOf(w, t), 0);
    }

    // ---- the run

    boolean seed(int v) {
        if (out(v, 1, 65535)) {
            return answer(false, 2);
        }
        seed = v;
        return answer(true, 0);
    }

    boolean begin(int l, int w) {
        if (noLoop(l) || noWave(w)) {
            return answer(false, 1);
        }
        run = new Running(l, w, seed, new ArrayList<>());
        return answer(true, 0);
    }

    private static int bit(int r, int n) {
        return r / (1 << n) % 2;
    }

    static Clocked clock(LoopTold loop, Clocked old, int v, boolean quiet) {
        int register = old == null ? 1 : old.register;
        int z = 0;
        if (!quiet && loop.noise != 0) {
            int b = (bit(register, 0) + bit(register, 2) + bit(register, 3) + bit(register, 5)) % 2;
            register = register / 2 + 32768 * b;
            z = bit(register, 0) == 1 ? loop.noise : 0 - loop.noise;
        }
        int stages = loop.factors.size();
        int q = old.sums.get(stages - 1) + z;
        int value = loop.three ? q >= 500 ? 1 : q <= -500 ? -1 : 0 : q >= 0 ? 1 : -1;
        List<Integer> sums = new ArrayList<>();
        int clips = 0;
        for (int s = 0; s < stages; s++) {
            int d = (s == 0 ? v : sums.get(s - 1)) - 1000 * value;
            int next = old.sums.get(s) + down(loop.factors.get(s) * d, 16);
            if (next > loop.bound) {
                next = loop.bound;
                clips++;
            } else if (next < 0 - loop.bound) {
                next = 0 - loop.bound;
                clips++;
            }
            sums.add(next);
        }
        return new Clocked(value, sums, register, clips);
    }

    static Clocked first(LoopTold loop, int register) {
        return new Clocked(9, new ArrayList<>(loop.factors.stream().map(f -> 0).toList()), register, 0);
    }

    private Clocked last() {
        return run.clocks.isEmpty() ? first(told.loops.get(run.loop), run.first) : run.clocks.get(run.clocks.size() - 1);
    }

    int run(int n) {
        if (run == null) {
            return answer(NOTHING, 1);
        }
        if (out(n, 1, 500)) {
            return answer(NOTHING, 2);
        }
        if (run.clocks.size() + n > 4096) {
            return answer(NOTHING, 3);
        }
        int added = 0;
        for (int i = 0; i < n; i++) {
            Clocked next = clock(told.loops.get(run.loop), last(), levelOf(run.wave, run.clocks.size()), false);
            run.clocks.add(next);
            added += next.out;
        }
        return answer(added, 0);
    }

    int now(int what) {
        if (run == null || out(what, 0, 4)) {
            return answer(NONE, 1);
        }
        int clips = run.clocks.stream().mapToInt(Clocked::clips).sum();
        return answer(new int[] {run.loop, run.wave, run.clocks.size(), last().register, clips}[what], 0);
    }

    private boolean noStage(int stage) {
        return run == null || out(stage, 0, told.loops.get(run.loop).factors.size() - 1);
    }

    int sum(int stage) {
        return noStage(stage) ? answer(NOTHING, 1) : answer(last().sums.get(stage), 0);
    }

    int size(int stage) {
        if (noStage(stage)) {
            return answer(NONE, 1);
        }
        return answer(run.clocks.stream().mapToInt(c -> Math.abs(c.sums.get(stage))).max().orElse(0), 0);
    }

    int out(int t) {
        if (run == null) {
            return answer(NOTHING, 1);
        }
        return out(t, 0, run.clocks.size() - 1) ? answer(NOTHING, 2) : answer(run.clocks.get(t).out, 0);
    }

    // ---- stretches

    private boolean noStretch(int a, int b) {
        return a < 0 || b >= run.clocks.size() || a > b;
    }

    private int[] outs(int a, int b) {
        return run.clocks.subList(a, b + 1).stream().mapToInt(Clocked::out).toArray();
    }

    int often(int value, int a, int b) {
        if (run == null) {
            return answer(NONE, 1);
        }
        if (out(value, -1, 1) || noStretch(a, b)) {
            return answer(NONE, 2);
        }
        return answer((int) Arrays.stream(outs(a, b)).filter(o -> o == value).count(), 0);
    }

    int astray(int a, int b) {
        if (run == null || noStretch(a, b)) {
            return answer(NOTHING, run == null ? 1 : 2);
        }
        int n = 1000 * Arrays.stream(outs(a, b)).sum();
        for (int t = a; t <= b; t++) {
            n -= levelOf(run.wave, t);
        }
        return answer(n, 0);
    }

    int rows(int a, int b, int what) {
        if (run == null || out(what, 0, 1)) {
            return answer(NONE, 1);
        }
        if (noStretch(a, b)) {
            return answer(NONE, 2);
        }
        StringBuilder s = new StringBuilder();
        for (int o : outs(a, b)) {
            s.append((char) ('b' + o));
        }
        int most = 0;
        int parts = 0;
        for (String part : s.toString().split("(?<=a)(?!a)|(?<=b)(?!b)|(?<=c)(?!c)")) {
            most = Math.max(most, part.length());
            parts++;
        }
        return answer(what == 0 ? most : parts - 1, 0);
    }

    private static int likeOf(int[] o, int lag) {
        int n = 0;
        for (int t = 0; t < o.length; t++) {
            if (t + lag < o.length && o[t] == o[t + lag]) {
                n++;
            }
        }
        return n;
    }

    int like(int a, int b, int lag) {
        if (run == null) {
            return answer(NONE, 1);
        }
        if (noStretch(a, b) || out(lag, 1, 1000)) {
            return answer(NONE, 2);
        }
        return answer(likeOf(outs(a, b), lag), 0);
    }

    int tone(int a, int b, int most) {
        if (run == null) {
            return answer(NONE, 1);
        }
        if (noStretch(a, b) || out(most, 1, 200)) {
            return answer(NONE, 2);
        }
        int[] o = outs(a, b);
        // 4,096 clocks: parts unlike one another differ by more than a double loses
        double best = -1;
        int lagThen = -2;
        for (int lag = 1; lag <= most && lag < o.length; lag++) {
            double part = (double) likeOf(o, lag) / (o.length - lag);
            if (part > best) {
                best = part;
                lagThen = lag;
            }
        }
        return answer(lagThen, 0);
    }

    int nth(int value, int i) {
        if (run == null) {
            return answer(NONE, 1);
        }
        if (out(value, -1, 1) || i < 0) {
            return answer(NONE, 2);
        }
        List<Integer> places = new ArrayList<>();
        for (int t = 0; t < run.clocks.size(); t++) {
            if (run.clocks.get(t).out == value) {
                places.add(t);
            }
        }
        return answer(i < places.size() ? places.get(i) : -2, 0);
    }

    int mean(int a, int b, int what) {
        if (run == null || out(what, 0, 1)) {
            return answer(NOTHING, 1);
        }
        if (noStretch(a, b)) {
            return answer(NOTHING, 2);
        }
        int added = Arrays.stream(outs(a, b)).sum();
        int gcd = BigInteger.valueOf(added).gcd(BigInteger.valueOf(b - a + 1)).intValue();
        return answer(what == 0 ? added / gcd : (b - a + 1) / gcd, 0);
    }

    int octet(int i) {
        if (run == null) {
            return answer(NONE, 1);
        }
        if (i < 0 || 8L * i + 7 >= run.clocks.size()) {
            return answer(NONE, 2);
        }
        String s = "";
        for (int o : outs(8 * i, 8 * i + 7)) {
            s += o == 1 ? "1" : "0";
        }
        return answer(Integer.parseInt(s, 2), 0);
    }

    // ---- summed

    /** Row m of a row 0, one row behind another. */
    private static List<Integer> summedOf(int[] row, int m, int by) {
        int[] now = row;
        for (int order = 0; order < m; order++) {
            int[] next = new int[Math.max(0, now.length - by + 1)];
            for (int t = 0; t < next.length; t++) {
                for (int k = 0; k < by; k++) {
                    next[t] += now[t + k];
                }
            }
            now = next;
        }
        List<Integer> all = new ArrayList<>();
        for (int t = 0; t < now.length; t += by) {
            all.add(now[t]);
        }
        return all;
    }

    private static boolean noSumming(int m, int by) {
        return out(m, 1, 3) || out(by, 2, 32);
    }

    private int[] allOuts() {
        return run.clocks.stream().mapToInt(Clocked::out).toArray();
    }

    int summed(int m, int by) {
        if (run == null) {
            return answer(NONE, 1);
        }
        return noSumming(m, by) ? answer(NONE, 2) : answer(summedOf(allOuts(), m, by).size(), 0);
    }

    int summedAt(int m, int by, int i) {
        if (run == null) {
            return answer(NOTHING, 1);
        }
        if (noSumming(m, by)) {
            return answer(NOTHING, 2);
        }
        List<Integer> all = summedOf(allOuts(), m, by);
        return i < 0 || i >= all.size() ? answer(NOTHING, 2) : answer(all.get(i), 0);
    }

    int worst(int m, int by) {
        if (run == null) {
            return answer(NONE, 1);
        }
        if (noSumming(m, by)) {
            return answer(NONE, 2);
        }
        int[] fed = new int[run.clocks.size()];
        for (int t = 0; t < fed.length; t++) {
            fed[t] = levelOf(run.wave, t);
        }
        List<Integer> a = summedOf(allOuts(), m, by);
        List<Integer> b = summedOf(fed, m, by);
        int worst = -1;
        for (int i = 0; i < a.size(); i++) {
            worst = Math.max(worst, Math.abs(1000 * a.get(i) - b.get(i)));
        }
        return worst < 0 ? answer(NONE, 5) : answer(worst, 0);
    }

    // ---- cycles

    private static Found foundOf(LoopTold loop, int level) {
        Map<List<Integer>, Integer> seen = new HashMap<>();
        List<Clocked> all = new ArrayList<>();
        all.add(first(loop, 1));
        for (int t = 0; t <= 6000; t++) {
            Integer before = seen.putIfAbsent(all.get(t).sums, t);
            if (before != null) {
                return before > 3000 || t - before > 3000 ? null : new Found(before, t - before, all);
            }
            all.add(clock(loop, all.get(t), level, true));
        }
        return null;
    }

    /** Entry t of all has the sums as clock t begins and the out of the clock ahead of it. */
    private static int told(Found f, int what) {
        int outs = 0;
        int clips = 0;
        int size = 0;
        int changes = 0;
        for (int t = f.ahead; t < f.ahead + f.lasting; t++) {
            Clocked next = f.all.get(t + 1);
            outs += next.out;
            clips += next.clips;
            List<Integer> sums = f.all.get(t).sums;
            size = Math.max(size, Math.abs(sums.get(sums.size() - 1)));
            int ahead = t == f.ahead ? f.all.get(f.ahead + f.lasting).out : f.all.get(t).out;
            changes += next.out != ahead ? 1 : 0;
        }
        return new int[] {f.ahead, f.lasting, outs, clips, size, changes}[what];
    }

    int cycle(int l, int level, int what) {
        if (noLoop(l) || out(what, 0, 5)) {
            return answer(NOTHING, 1);
        }
        if (out(level, -1000, 1000)) {
            return answer(NOTHING, 2);
        }
        Found f = foundOf(told.loops.get(l), level);
        return f == null ? answer(NOTHING, 5) : answer(told(f, what), 0);
    }

    int fed(int l, int stage, int level, int k) {
        if (noLoop(l) || out(stage, 0, told.loops.get(l).factors.size() - 1)) {
            return answer(NOTHING, 1);
        }
        if (out(level, -1000, 1000) || out(k, 0, 3000)) {
            return answer(NOTHING, 2);
        }
        Clocked c = first(told.loops.get(l), 1);
        for (int t = 0; t < k; t++) {
            c = clock(told.loops.get(l), c, level, true);
        }
        return answer(c.sums.get(stage), 0);
    }

    int sweep(int l, int from, int step, int many, int what) {
        if (noLoop(l) || out(what, 0, 2)) {
            return answer(NOTHING, 1);
        }
        if (out(many, 1, 50)) {
            return answer(NOTHING, 2);
        }
        for (int i = 0; i < many; i++) {
            if (Math.abs(from + (long) step * i) > 1000) {
                return answer(NOTHING, 2);
            }
        }
        int cycles = 0;
        int unclipped = 0;
        int longest = 0;
        int levelThen = NOTHING;
        for (int i = 0; i < many; i++) {
            Found f = foundOf(told.loops.get(l), from + step * i);
            if (f != null) {
                cycles++;
                unclipped += told(f, 3) == 0 ? 1 : 0;
                if (f.lasting > longest) {
                    longest = f.lasting;
                    levelThen = from + step * i;
                }
            }
        }
        return answer(new int[] {cycles, unclipped, levelThen}[what], 0);
    }

    int steady(int l) {
        if (noLoop(l)) {
            return answer(NONE, 1);
        }
        for (int level = 0; level <= 1000; level += 50) {
            Clocked c = first(told.loops.get(l), 1);
            for (int t = 0; t < 1000; t++) {
                c = clock(told.loops.get(l), c, level, true);
                if (c.clips > 0) {
                    return answer(level == 0 ? -2 : level - 50, 0);
                }
            }
        }
        return answer(1000, 0);
    }

    int apart(int l, int k, int w, int n) {
        if (noLoop(l) || noLoop(k) || noWave(w)) {
            return answer(NONE, 1);
        }
        if (out(n, 1, 500)) {
            return answer(NONE, 2);
        }
        Clocked a = first(told.loops.get(l), seed);
        Clocked b = first(told.loops.get(k), seed);
        int unlike = 0;
        for (int t = 0; t < n; t++) {
            a = clock(told.loops.get(l), a, levelOf(w, t), false);
            b = clock(told.loops.get(k), b, levelOf(w, t), false);
            unlike += a.out == b.out ? 0 : 1;
        }
        return answer(unlike, 0);
    }

    // ---- images, letters

    private static Running copy(Running r) {
        return r == null ? null : new Running(r.loop, r.wave, r.first, new ArrayList<>(r.clocks));
    }

    boolean keep(int k) {
        if (told == null || out(k, 0, 1)) {
            return answer(false, 1);
        }
        kept[k] = new Kept(copy(run), seed);
        return answer(true, 0);
    }

    boolean back(int k) {
        if (out(k, 0, 1) || kept[k] == null) {
            return answer(false, 1);
        }
        run = copy(kept[k].run);
        seed = kept[k].seed;
        return answer(true, 0);
    }

    /** Check.THROWN where there is none such. */
    long letter(int kind, int i, int k) {
        if (out(kind, 0, 1) || (kind == 0 ? noLoop(i) : noWave(i))) {
            return Check.THROWN;
        }
        String name = kind == 0 ? told.loops.get(i).name : told.waves.get(i).name;
        return k < 0 || k >= name.length() ? Check.THROWN : name.charAt(k) - 'a';
    }
}
