import java.util.NoSuchElementException;

/** What the tests share: counts answers that are not due, and feeds texts. */
final class Check {
    static final int NONE = -1;
    static final int NOTHING = -1000000000;
    static final long THROWN = Long.MIN_VALUE;

    private int wrong;

    void due(String call, long got, long want) {
        if (got != want) {
            wrong++;
            if (wrong <= 200) {
                System.out.println(call + " answered " + got + ", due is " + want);
            }
        }
    }

    void due(String call, boolean got, boolean want) {
        due(call, got ? 1 : 0, want ? 1 : 0);
    }

    boolean isClean() {
        return wrong == 0;
    }

    void end(String name) {
        System.out.println(wrong == 0 ? name + ": all answers are as due" : name + ": " + wrong + " wrong");
        if (wrong != 0) {
            System.exit(1);
        }
    }

    /** An answer, and the trouble and the place that it leaves. */
    void left(LevelBits x, String call, long got, long want, int trouble) {
        due(call, got, want);
        due(call + ": trouble", x.trouble(), trouble);
        due(call + ": where", x.where(), NONE);
    }

    void left(LevelBits x, String call, boolean got, boolean want, int trouble) {
        left(x, call, got ? 1 : 0, want ? 1 : 0, trouble);
    }

    /** The same, of a call of which the place is due, too. */
    void left(LevelBits x, String call, long got, long want, int trouble, int where) {
        due(call, got, want);
        due(call + ": trouble", x.trouble(), trouble);
        due(call + ": where", x.where(), where);
    }

    void same(String call, String got, String want) {
        if (!got.equals(want)) {
            int at = 0;
            while (at < got.length() && at < want.length() && got.charAt(at) == want.charAt(at)) {
                at++;
            }
            int from = Math.max(0, at - 60);
            due(call + " left '.." + got.substring(from, Math.min(got.length(), at + 30)) + "', due is '.."
                + want.substring(from, Math.min(want.length(), at + 30)) + "'", false, true);
        }
    }

    /** The text is refused by 4, with this fault at this place, and the tape is empty then. */
    void faulty(LevelBits x, String s, int number, int at) {
        due("text '" + s + "'", text(x, s), NONE);
        due("trouble of '" + s + "'", x.trouble(), 4);
        due("fault of '" + s + "'", x.fault(), number);
        due("where of '" + s + "'", x.where(), at);
        due("bytes behind '" + s + "'", x.bytes(), 0);
    }

    /** The fault stands where the sign | does, which isn't of the text. */
    void marked(int number, String s) {
        int at = s.indexOf('|');
        faulty(new LevelBits(), s.substring(0, at) + s.substring(at + 1), number, at);
    }

    /** The text is taken and has so many loops; the object that has it. */
    LevelBits good(String s, int loops) {
        LevelBits x = new LevelBits();
        left(x, "text '" + s + "'", text(x, s), loops, 0);
        due("fault of '" + s + "'", x.fault(), 0);
        due("bytes behind '" + s + "'", x.bytes(), 0);
        return x;
    }

    static int number(String s, int at) {
        int n = 0;
        for (int i = at; i < at + 4; i++) {
            n = n << 8 | (i < s.length() ? s.charAt(i) & 255 : 32);
        }
        return n;
    }

    /** The text behind the tape, filled up with blanks to twenties. */
    static void feed(LevelBits x, String s) {
        for (int at = 0; at < s.length(); at += 20) {
            x.feed(number(s, at), number(s, at + 4), number(s, at + 8), number(s, at + 12), number(s, at + 16));
        }
    }

    static int text(LevelBits x, String s) {
        feed(x, s);
        return x.text(s.length());
    }

    static LevelBits of(String s) {
        LevelBits x = new LevelBits();
        text(x, s);
        return x;
    }

    static long letter(LevelBits x, int kind, int i, int k) {
        try {
            return x.letter(kind, i, k);
        } catch (NoSuchElementException e) {
            return THROWN;
        }
    }
}
