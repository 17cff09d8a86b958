/** Long runs of calls, made by a fixed row of numbers, of which class and model must answer alike. */
public final class ModelTest {
    private static final String[] WORDS = {"loop", "wave", "by", "bound", "three", "noise", "hold", "ramp",
        "swing", "to", "every", "for", "a", "b", "zz", "abcdef", "abcdefg", ";", ",", "-", "0", "1", "2", "16",
        "32", "33", "99", "100", "500", "501", "999", "1000", "1001", "9999", "10000", "$", "A", "\u0080"};

    private static final Check CHECK = new Check();
    private static long state;

    public static void main(String[] args) {
        int runs = args.length > 0 ? Integer.parseInt(args[0]) : 150;
        for (int i = 0; i < runs && CHECK.isClean(); i++) {
            state = 1234567 + i;
            oneRun(i, 120);
        }
        for (int i = 0; i < 20 * runs && CHECK.isClean(); i++) {
            state = 7654321 + i;
            texts(i);
        }
        CHECK.end("model");
    }

    /** 0 up to n less 1. */
    private static int any(int n) {
        state = state * 6364136223846793005L + 1442695040888963407L;
        return (int) ((state >>> 33) % n);
    }

    private static int from(int least, int most) {
        return least + any(most - least + 1);
    }

    /** Within bounds mostly, at the edges and beyond them at times. */
    private static int near(int least, int most) {
        int[] edges = {least - 1, least, most, most + 1, Integer.MIN_VALUE, Integer.MAX_VALUE, 0, -1};
        return any(8) == 0 ? edges[any(8)] : from(least, most);
    }

    private static String integer() {
        return (any(2) == 0 ? "-" : "") + (any(4) == 0 ? 1000 : any(1001));
    }

    private static String loopLine(String name) {
        String s = "loop " + name + " by";
        for (int i = from(1, 3); i > 0; i--) {
            s += " " + (any(3) == 0 ? 16 : from(1, 32));
        }
        s += " bound " + (any(3) == 0 ? from(1000, 1200) : from(1000, 9999));
        return s + (any(3) == 0 ? " three" : "") + (any(3) == 0 ? " noise " + from(1, 999) : "");
    }

    private static String waveLine(String name) {
        String s = "wave " + name;
        int pieces = any(4) == 0 ? from(1, 8) : from(1, 3);
        for (int i = 0; i < pieces; i++) {
            String clocks = " for " + (any(3) == 0 ? from(1, 500) : from(1, 20));
            String piece = new String[] {"hold " + integer(), "ramp " + integer() + " to " + integer(),
                "swing " + integer() + " every " + from(2, 99)}[any(3)];
            s += (i == 0 ? " " : ", ") + piece + clocks;
        }
        return s;
    }

    private static String goodText() {
        String names = "abcdefgh";
        int loops = any(10) == 0 ? 0 : from(1, 4);
        int waves = any(10) == 0 ? 0 : from(1, 4);
        String s = "";
        int l = 0;
        int w = 0;
        while (l < loops || w < waves) {
            String name = "n" + names.charAt(l + w);
            s += s.isEmpty() ? "" : "; ";
            if (w >= waves || l < loops && any(2) == 0) {
                s += loopLine(name);
                l++;
            } else {
                s += waveLine(name);
                w++;
            }
        }
        return s.length() <= 600 ? s : goodText();
    }

    private static String spoilt(String s) {
        int at = any(s.length() + 1);
        switch (any(5)) {
            case 0:
                return s.substring(0, at);
            case 1:
                return s.substring(0, at) + WORDS[any(WORDS.length)] + s.substring(at);
            case 2:
                return s.substring(0, at) + " " + WORDS[any(WORDS.length)] + " " + s.substring(at);
            case 3:
                return s.substring(0, at) + s.substring(Math.min(s.length(), at + from(1, 6)));
            default:
                return s.substring(0, at) + " " + s.substring(at);
        }
    }

    private static void feed(String call, LevelBits x, Model y, String s) {
        for (int at = 0; at < s.length(); at += 20) {
            int[] n = new int[5];
            for (int i = 0; i < 5; i++) {
                n[i] = Check.number(s, at + 4 * i);
            }
            CHECK.due(call + " feed", x.feed(n[0], n[1], n[2], n[3], n[4]), y.feed(n[0], n[1], n[2], n[3], n[4]));
        }
    }

    private static void alike(String call, LevelBits x, Model y) {
        CHECK.due(call + " trouble", x.trouble(), y.trouble());
        CHECK.due(call + " where", x.where(), y.where());
        CHECK.due(call + " fault", x.fault(), y.fault());
        CHECK.due(call + " bytes", x.bytes(), y.bytes());
    }

    private static void tell(String call, LevelBits x, Model y, String s) {
        feed(call, x, y, s);
        int n = any(20) == 0 ? near(0, 600) : Math.min(600, s.length());
        CHECK.due(call + " text '" + s + "'", x.text(n), y.text(n));
        alike(call + " text '" + s + "'", x, y);
    }

    private static void texts(int i) {
        LevelBits x = new LevelBits();
        Model y = new Model();
        for (int n = 0; n < 8; n++) {
            String s = goodText();
            if (any(4) == 0) {
                s = "";
                for (int k = any(20); k > 0; k--) {
                    s += WORDS[any(WORDS.length)] + (any(5) == 0 ? "" : " ");
                }
            }
            for (int k = any(3); k > 0; k--) {
                s = spoilt(s);
            }
            tell("texts " + i, x, y, s);
            allTold("texts " + i, x, y);
        }
    }

    private static void allTold(String call, LevelBits x, Model y) {
        for (int l = 0; l < 5; l++) {
            for (int what = 0; what < 8; what++) {
                CHECK.due(call + " loop", x.loop(l, what), y.loop(l, what));
                CHECK.due(call + " wave", x.wave(l, what), y.wave(l, what));
            }
            for (int k = 0; k < 3; k++) {
                CHECK.due(call + " letter", Check.letter(x, 0, l, k), y.letter(0, l, k));
                CHECK.due(call + " letter", Check.letter(x, 1, l, k), y.letter(1, l, k));
            }
            int t = from(0, 5000);
            CHECK.due(call + " level", x.level(l, t), y.level(l, t));
        }
    }

    private static void oneRun(int number, int calls) {
        LevelBits x = new LevelBits();
        Model y = new Model();
        for (int i = 0; i < calls && CHECK.isClean(); i++) {
            String call = "run " + number + " call " + i;
            if (i == 3 || any(60) == 0) {
                tell(call, x, y, any(6) == 0 ? spoilt(goodText()) : goodText());
            }
            if (i == 5) {
                CHECK.due(call + " begin", x.begin(0, 0), y.begin(0, 0));
            }
            call += " ";
            oneCall(call, x, y, any(40));
            alike(call, x, y);
        }
    }

    private static void oneCall(String call, LevelBits x, Model y, int which) {
        int l = near(0, 3);
        int w = near(0, 3);
        int clocks = Math.max(0, y.now(2));
        x.now(2);
        int a = near(0, clocks);
        int b = any(3) == 0 ? near(0, clocks) : near(Math.min(Math.max(a, 0), clocks), clocks);
        switch (which) {
            case 0 -> CHECK.due(call + "about", x.about(a), y.about(a));
            case 1 -> CHECK.due(call + "level", x.level(w, a), y.level(w, a));
            case 2, 3, 4 -> {
                int v = near(1, 65535);
                CHECK.due(call + "seed", x.seed(v), y.seed(v));
            }
            case 5, 6 -> CHECK.due(call + "begin", x.begin(l, w), y.begin(l, w));
            case 7, 8, 9, 10, 11 -> {
                int n = any(3) == 0 ? near(1, 30) : near(1, 500);
                CHECK.due(call + "run", x.run(n), y.run(n));
            }
            case 12 -> {
                int what = near(0, 4);
                CHECK.due(call + "now", x.now(what), y.now(what));
            }
            case 13 -> CHECK.due(call + "sum", x.sum(l), y.sum(l));
            case 14 -> CHECK.due(call + "size", x.size(l), y.size(l));
            case 15 -> CHECK.due(call + "out", x.out(a), y.out(a));
            case 16 -> {
                int v = near(-1, 1);
                CHECK.due(call + "often", x.often(v, a, b), y.often(v, a, b));
            }
            case 17 -> CHECK.due(call + "astray", x.astray(a, b), y.astray(a, b));
            case 18 -> {
                int what = near(0, 1);
                CHECK.due(call + "rows", x.rows(a, b, what), y.rows(a, b, what));
            }
            case 19 -> {
                int lag = any(2) == 0 ? near(1, 1000) : near(1, 20);
                CHECK.due(call + "like", x.like(a, b, lag), y.like(a, b, lag));
            }
            case 20, 21 -> {
                int most = near(1, 200);
                CHECK.due(call + "tone", x.tone(a, b, most), y.tone(a, b, most));
            }
            case 22 -> {
                int v = near(-1, 1);
                CHECK.due(call + "nth", x.nth(v, a / 2), y.nth(v, a / 2));
            }
            case 23 -> {
                int what = near(0, 1);
                CHECK.due(call + "mean", x.mean(a, b, what), y.mean(a, b, what));
            }
            case 24 -> CHECK.due(call + "octet", x.octet(a / 8), y.octet(a / 8));
            case 25, 26, 27 -> summed(call, x, y, near(1, 3), near(2, 32));
            case 28, 29 -> {
                int level = near(-1000, 1000);
                for (int what = -1; what <= 6; what++) {
                    CHECK.due(call + "cycle", x.cycle(l, level, what), y.cycle(l, level, what));
                    CHECK.due(call + "cycle trouble", x.trouble(), y.trouble());
                }
            }
            case 30 -> {
                int stage = near(0, 2);
                int level = near(-1000, 1000);
                int k = near(0, 3000);
                CHECK.due(call + "fed", x.fed(l, stage, level, k), y.fed(l, stage, level, k));
            }
            case 31 -> {
                int first = near(-1000, 1000);
                int step = any(3) == 0 ? near(-1000, 1000) : from(-20, 20);
                int many = any(4) == 0 ? near(1, 50) : from(1, 10);
                int what = near(0, 2);
                CHECK.due(call + "sweep", x.sweep(l, first, step, many, what), y.sweep(l, first, step, many, what));
            }
            case 32 -> CHECK.due(call + "steady", x.steady(l), y.steady(l));
            case 33 -> {
                int k = near(0, 3);
                int n = near(1, 500);
                CHECK.due(call + "apart", x.apart(l, k, w, n), y.apart(l, k, w, n));
            }
            case 34, 35 -> {
                int k = near(0, 1);
                CHECK.due(call + "keep", x.keep(k), y.keep(k));
            }
            case 36, 37 -> {
                int k = near(0, 1);
                CHECK.due(call + "back", x.back(k), y.back(k));
            }
            case 38 -> {
                int kind = near(0, 1);
                int k = near(0, 1);
                CHECK.due(call + "letter", Check.letter(x, kind, l, k), y.letter(kind, l, k));
            }
            default -> feed(call, x, y, "abc");
        }
    }

    private static void summed(String call, LevelBits x, Model y, int m, int by) {
        CHECK.due(call + "summed", x.summed(m, by), y.summed(m, by));
        int many = Math.max(0, y.summed(m, by));
        int i = near(0, many);
        CHECK.due(call + "summedAt", x.summedAt(m, by, i), y.summedAt(m, by, i));
        CHECK.due(call + "summedAt trouble", x.trouble(), y.trouble());
        CHECK.due(call + "worst", x.worst(m, by), y.worst(m, by));
    }
}
