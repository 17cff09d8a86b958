import java.util.function.Supplier;

/**
 * "Terms" III: what is refused changes nothing but trouble() and where(), by 4 the tape and fault();
 * what is only asked changes nothing at all. Each call is made on an object of its own, in a state
 * where where() tells a place, and the object is held against one without the call.
 */
public final class RefusedTest {
    private static final int NONE = Check.NONE;
    private static final int NOTHING = Check.NOTHING;
    private static final int NO = 0;
    private static final int MOST = Integer.MAX_VALUE;
    private static final int LEAST = Integer.MIN_VALUE;
    private static final Check CHECK = new Check();

    private static final String TEXT = "loop one by 16 bound 9000;loop two by 8 16 bound 2000 three noise 40;"
        + "loop far by 25 bound 9999;wave w hold 250 for 8,ramp 0 to 100 for 4,swing 1000 every 8 for 16;"
        + "wave low hold -1000 for 1";
    private static final String TAPED = "loop q by 3 bound 1000;wave rr hold -77 for 3";
    /** What fills the tape up behind it. */
    private static final String FILL = " ".repeat(520) + ";wave s hold 1 for 2";

    private interface Call {
        long of(LevelBits x);
    }

    private static final class State {
        private final String name;
        private final Supplier<LevelBits> maker;
        private final String picture;

        private State(String name, Supplier<LevelBits> maker) {
            this.name = name;
            this.maker = maker;
            this.picture = Picture.of(maker.get());
        }

        private void refused(String told, int trouble, long answer, Call... calls) {
            for (int i = 0; i < calls.length; i++) {
                String call = name + ": " + told + " " + i;
                LevelBits x = made(call);
                CHECK.left(x, call, calls[i].of(x), answer, trouble);
                CHECK.same(call, Picture.of(x), picture);
            }
        }

        /** Calls that are granted and change nothing. */
        private void asked(String told, Call... calls) {
            for (int i = 0; i < calls.length; i++) {
                String call = name + ": " + told + " " + i;
                LevelBits x = made(call);
                calls[i].of(x);
                CHECK.due(call + " trouble", x.trouble(), 0);
                CHECK.due(call + " where", x.where(), NONE);
                CHECK.same(call, Picture.of(x), picture);
            }
        }

        /** Calls of which no number is told: trouble() and where() stay, too. */
        private void aside(String told, Call... calls) {
            for (int i = 0; i < calls.length; i++) {
                String call = name + ": " + told + " " + i;
                LevelBits x = made(call);
                calls[i].of(x);
                CHECK.due(call + " trouble", x.trouble(), 4);
                CHECK.due(call + " where", x.where(), 10);
                CHECK.same(call, Picture.of(x), picture);
            }
        }

        private LevelBits made(String call) {
            LevelBits x = maker.get();
            CHECK.due(call + " ahead of it: trouble", x.trouble(), 4);
            CHECK.due(call + " ahead of it: where", x.where(), 10);
            return x;
        }
    }

    public static void main(String[] args) {
        State bare = new State("no text", RefusedTest::bare);
        State told = new State("text", RefusedTest::told);
        State begun = new State("begun", RefusedTest::begun);
        State running = new State("running", RefusedTest::running);
        State full = new State("full", RefusedTest::full);
        State[] all = {bare, told, begun, running, full};
        for (State state : all) {
            textAndSeed(state);
            byFour(state);
            calmCalls(state);
        }
        withoutText(bare);
        State[] withText = {told, begun, running, full};
        for (State state : withText) {
            ofTheText(state);
            onPaper(state);
            askedOfTheText(state);
        }
        withoutRun(bare);
        withoutRun(told);
        withoutClocks(begun);
        numbersOfTheRun(running, 37);
        numbersOfTheRun(full, 4096);
        noRoom(full);
        askedOfTheRun(running);
        askedOfTheRun(full);
        images(bare, told, begun);
        picturesTellApart(all);
        CHECK.end("refused");
    }

    // ---- states

    /** Behind a text that is refused by 4 at 10, with bytes on the tape again. */
    private static LevelBits troubled(LevelBits x) {
        Check.text(x, "loop a by 0");
        Check.feed(x, TAPED);
        return x;
    }

    private static LevelBits bare() {
        LevelBits x = new LevelBits();
        x.seed(77);
        return troubled(x);
    }

    private static LevelBits told() {
        LevelBits x = Check.of(TEXT);
        x.seed(77);
        return troubled(x);
    }

    private static LevelBits begun() {
        LevelBits x = Check.of(TEXT);
        x.seed(5);
        x.keep(0);
        x.seed(77);
        x.begin(1, 0);
        return troubled(x);
    }

    private static LevelBits running() {
        LevelBits x = Check.of(TEXT);
        x.seed(5);
        x.begin(0, 1);
        x.run(9);
        x.keep(0);
        x.seed(77);
        x.begin(1, 0);
        x.run(20);
        x.keep(1);
        x.seed(123);
        x.run(17);
        return troubled(x);
    }

    private static LevelBits full() {
        LevelBits x = Check.of(TEXT);
        x.seed(77);
        x.begin(1, 0);
        for (int i = 0; i < 8; i++) {
            x.run(500);
        }
        x.run(96);
        x.keep(1);
        troubled(x);
        Check.feed(x, FILL);
        CHECK.due("the tape is full", x.bytes(), 600);
        return x;
    }

    // ---- in every state

    private static void textAndSeed(State state) {
        state.refused("3 n", 2, NONE, x -> x.text(-1), x -> x.text(x.bytes() + 1), x -> x.text(601), x -> x.text(MOST),
            x -> x.text(LEAST));
        state.refused("10 v", 2, NO, x -> x.seed(0) ? 1 : 0, x -> x.seed(65536) ? 1 : 0, x -> x.seed(-1) ? 1 : 0,
            x -> x.seed(MOST) ? 1 : 0, x -> x.seed(LEAST) ? 1 : 0);
        state.refused("no LOOP", 1, NONE, x -> x.loop(-1, 0), x -> x.loop(3, 0), x -> x.loop(MOST, 0), x -> x.loop(LEAST, 0),
            x -> x.steady(-1), x -> x.steady(3), x -> x.apart(-1, 0, 0, 1), x -> x.apart(3, 0, 0, 1), x -> x.apart(0, -1, 0, 1),
            x -> x.apart(0, 3, 0, 1), x -> x.apart(3, 0, 0, 0));
        state.refused("no LOOP", 1, NOTHING, x -> x.cycle(-1, 0, 0), x -> x.cycle(3, 0, 0), x -> x.cycle(3, 1001, 0),
            x -> x.fed(-1, 0, 0, 0), x -> x.fed(3, 0, 0, 0), x -> x.fed(3, 0, 1001, -1), x -> x.sweep(-1, 0, 0, 1, 0),
            x -> x.sweep(3, 0, 0, 1, 0), x -> x.sweep(3, 1001, 0, 0, 0));
        state.refused("no WAVE", 1, NOTHING, x -> x.wave(-1, 0), x -> x.wave(2, 0), x -> x.wave(MOST, 0), x -> x.wave(LEAST, 0),
            x -> x.level(-1, 0), x -> x.level(2, 0), x -> x.level(2, -1), x -> x.level(LEAST, LEAST));
        state.refused("no WAVE", 1, NONE, x -> x.apart(0, 0, -1, 1), x -> x.apart(0, 0, 2, 1), x -> x.apart(0, 0, 2, 0));
        state.refused("11 none such", 1, NO, x -> x.begin(-1, 0) ? 1 : 0, x -> x.begin(3, 0) ? 1 : 0, x -> x.begin(0, -1) ? 1 : 0,
            x -> x.begin(0, 2) ? 1 : 0, x -> x.begin(LEAST, MOST) ? 1 : 0);
        state.refused("6 what", 1, NONE, x -> x.about(-1), x -> x.about(2), x -> x.about(MOST), x -> x.about(LEAST));
        state.refused("13 what", 1, NONE, x -> x.now(-1), x -> x.now(5), x -> x.now(MOST), x -> x.now(LEAST));
        state.refused("33 k", 1, NO, x -> x.keep(-1) ? 1 : 0, x -> x.keep(2) ? 1 : 0, x -> x.keep(MOST) ? 1 : 0,
            x -> x.keep(LEAST) ? 1 : 0);
        state.refused("34 k", 1, NO, x -> x.back(-1) ? 1 : 0, x -> x.back(2) ? 1 : 0, x -> x.back(MOST) ? 1 : 0,
            x -> x.back(LEAST) ? 1 : 0);
    }

    /** By 4 the tape is empty and the fault another one; once both are as before, all is as before. */
    private static void byFour(State state) {
        String[] texts = {"|", "loop|", "|$", "loop z by 5 6 7 bound 1234 three noise 9;wave y hold 9 for 9,|",
            "loop z by 5 bound 1234;wave y hold 9 for 9;wave |z", "loop z by 5 bound 1234;loop y by 1 1 1 |1",
            "loop one by 17 bound 9001;loop two by 9 17 bound 2001;loop far by 26 bound 9998;loop more by 1 bound |999"};
        int[] faults = {1, 1, 1, 1, 3, 4, 2};
        for (int i = 0; i < texts.length; i++) {
            String call = state.name + ": 3 by 4 " + i;
            LevelBits x = state.made(call);
            boolean full = x.bytes() == 600;
            x.text(0);
            CHECK.due(call + " empty", x.bytes(), 0);
            CHECK.faulty(x, texts[i].replace("|", ""), faults[i], texts[i].indexOf('|'));
            troubled(x);
            if (full) {
                Check.feed(x, FILL);
            }
            CHECK.same(call, Picture.of(x), state.picture);
        }
    }

    /** None of these may be refused; a letter that there isn't throws. */
    private static void calmCalls(State state) {
        state.aside("no number", LevelBits::fault, LevelBits::where, LevelBits::bytes, LevelBits::trouble,
            x -> Check.letter(x, 0, 0, 0), x -> Check.letter(x, 1, 0, 0), x -> Check.letter(x, 0, 9, 0),
            x -> Check.letter(x, 2, 0, 0), x -> Check.letter(x, 0, 0, -1));
    }

    // ---- without

    private static void withoutText(State state) {
        state.refused("6 no TEXT", 1, NONE, x -> x.about(0), x -> x.about(1));
        state.refused("no TEXT", 1, NONE, x -> x.loop(0, 0), x -> x.steady(0), x -> x.apart(0, 0, 0, 1), x -> x.apart(0, 0, 0, 0));
        state.refused("no TEXT", 1, NOTHING, x -> x.wave(0, 0), x -> x.level(0, 0), x -> x.level(0, -1), x -> x.cycle(0, 0, 0),
            x -> x.fed(0, 0, 0, 0), x -> x.sweep(0, 0, 0, 1, 0));
        state.refused("no TEXT", 1, NO, x -> x.begin(0, 0) ? 1 : 0, x -> x.keep(0) ? 1 : 0, x -> x.keep(1) ? 1 : 0,
            x -> x.back(0) ? 1 : 0, x -> x.back(1) ? 1 : 0);
    }

    /** Right numbers and wrong ones: no RUN is told first. */
    private static void withoutRun(State state) {
        state.refused("no RUN", 1, NOTHING, x -> x.run(1), x -> x.run(0), x -> x.run(501), x -> x.sum(0), x -> x.sum(-1), x -> x.out(0),
            x -> x.out(-1), x -> x.astray(0, 0), x -> x.astray(1, 0), x -> x.mean(0, 0, 0), x -> x.mean(1, 0, 2),
            x -> x.summedAt(1, 2, 0), x -> x.summedAt(0, 1, -1));
        state.refused("no RUN", 1, NONE, x -> x.now(0), x -> x.now(4), x -> x.size(0), x -> x.size(-1), x -> x.often(1, 0, 0),
            x -> x.often(2, 1, 0), x -> x.rows(0, 0, 0), x -> x.rows(1, 0, 2), x -> x.like(0, 0, 1), x -> x.like(1, 0, 0),
            x -> x.tone(0, 0, 1), x -> x.tone(1, 0, 0), x -> x.nth(1, 0), x -> x.nth(2, -1), x -> x.octet(0), x -> x.octet(-1),
            x -> x.summed(1, 2), x -> x.summed(0, 1), x -> x.worst(1, 2), x -> x.worst(0, 1));
    }

    private static void withoutClocks(State state) {
        state.refused("no clocks", 2, NOTHING, x -> x.out(0), x -> x.astray(0, 0), x -> x.mean(0, 0, 0), x -> x.summedAt(1, 2, 0));
        state.refused("no clocks", 2, NONE, x -> x.often(1, 0, 0), x -> x.rows(0, 0, 0), x -> x.like(0, 0, 1), x -> x.tone(0, 0, 1),
            x -> x.octet(0));
        state.refused("27 there is none", 5, NONE, x -> x.worst(1, 2), x -> x.worst(3, 32));
        state.refused("12 n", 2, NOTHING, x -> x.run(0), x -> x.run(501));
        state.asked("no clocks", x -> x.now(2), x -> x.sum(1), x -> x.size(1), x -> x.nth(1, 0), x -> x.summed(1, 2));
    }

    // ---- with a text

    private static void ofTheText(State state) {
        state.refused("7 what", 1, NONE, x -> x.loop(0, -1), x -> x.loop(0, 7), x -> x.loop(2, MOST), x -> x.loop(0, LEAST));
        state.refused("8 what", 1, NOTHING, x -> x.wave(0, -1), x -> x.wave(0, 4), x -> x.wave(1, MOST), x -> x.wave(0, LEAST));
        state.refused("9 t", 2, NOTHING, x -> x.level(0, -1), x -> x.level(1, LEAST));
    }

    private static void onPaper(State state) {
        state.refused("28 what", 1, NOTHING, x -> x.cycle(0, 0, -1), x -> x.cycle(0, 0, 6), x -> x.cycle(0, 1001, 6));
        state.refused("28 level", 2, NOTHING, x -> x.cycle(0, -1001, 0), x -> x.cycle(0, 1001, 5), x -> x.cycle(0, LEAST, 0));
        state.refused("28 there is none", 5, NOTHING, x -> x.cycle(2, 1, 0), x -> x.cycle(2, 1, 1), x -> x.cycle(2, 1, 5));
        state.refused("29 STAGE", 1, NOTHING, x -> x.fed(0, -1, 0, 0), x -> x.fed(0, 1, 0, 0), x -> x.fed(1, 2, 0, 0),
            x -> x.fed(0, 1, 1001, 3001));
        state.refused("29 level, k", 2, NOTHING, x -> x.fed(0, 0, -1001, 0), x -> x.fed(0, 0, 1001, 0), x -> x.fed(0, 0, 0, -1),
            x -> x.fed(0, 0, 0, 3001), x -> x.fed(0, 0, 0, MOST));
        state.refused("30 what", 1, NOTHING, x -> x.sweep(0, 0, 0, 1, -1), x -> x.sweep(0, 0, 0, 1, 3), x -> x.sweep(0, 0, 0, 51, 3));
        state.refused("30 many, levels", 2, NOTHING, x -> x.sweep(0, 0, 0, 0, 0), x -> x.sweep(0, 0, 0, 51, 1),
            x -> x.sweep(0, 1001, 0, 1, 2), x -> x.sweep(0, -1001, 1, 2, 0), x -> x.sweep(0, 1000, 1, 2, 0), x -> x.sweep(0, 0, MOST, 50, 0));
        state.refused("32 n", 2, NONE, x -> x.apart(0, 1, 0, 0), x -> x.apart(0, 1, 0, 501), x -> x.apart(0, 1, 0, LEAST));
    }

    private static void askedOfTheText(State state) {
        state.asked("of the text", x -> x.about(0), x -> x.about(1), x -> x.loop(2, 6), x -> x.wave(1, 3), x -> x.level(0, MOST));
        state.asked("on paper", x -> x.cycle(0, 250, 0), x -> x.cycle(1, -1000, 5), x -> x.fed(1, 1, 1000, 3000),
            x -> x.sweep(1, -1000, 40, 50, 0), x -> x.sweep(2, 1, 0, 2, 2), x -> x.steady(0), x -> x.steady(1),
            x -> x.apart(0, 1, 0, 500), x -> x.apart(1, 1, 1, 1));
    }

    // ---- with clocks

    private static void numbersOfTheRun(State state, int clocks) {
        int last = clocks - 1;
        state.refused("12 n", 2, NOTHING, x -> x.run(0), x -> x.run(-1), x -> x.run(501), x -> x.run(MOST), x -> x.run(LEAST));
        state.refused("14 STAGE", 1, NOTHING, x -> x.sum(-1), x -> x.sum(2), x -> x.sum(3), x -> x.sum(MOST));
        state.refused("15 STAGE", 1, NONE, x -> x.size(-1), x -> x.size(2), x -> x.size(3), x -> x.size(MOST));
        state.refused("16 it wasn't", 2, NOTHING, x -> x.out(-1), x -> x.out(clocks), x -> x.out(MOST), x -> x.out(LEAST));
        state.refused("17", 2, NONE, x -> x.often(-2, 0, last), x -> x.often(2, 0, last), x -> x.often(1, -1, last),
            x -> x.often(1, 0, clocks), x -> x.often(1, 1, 0));
        state.refused("18", 2, NOTHING, x -> x.astray(-1, last), x -> x.astray(0, clocks), x -> x.astray(1, 0));
        state.refused("19 what", 1, NONE, x -> x.rows(0, last, -1), x -> x.rows(0, last, 2), x -> x.rows(1, 0, 2));
        state.refused("19", 2, NONE, x -> x.rows(-1, last, 0), x -> x.rows(0, clocks, 1), x -> x.rows(1, 0, 0));
        state.refused("20", 2, NONE, x -> x.like(-1, last, 1), x -> x.like(0, clocks, 1), x -> x.like(1, 0, 1), x -> x.like(0, last, 0),
            x -> x.like(0, last, 1001));
        state.refused("21", 2, NONE, x -> x.tone(-1, last, 1), x -> x.tone(0, clocks, 1), x -> x.tone(1, 0, 1), x -> x.tone(0, last, 0),
            x -> x.tone(0, last, 201));
        state.refused("22", 2, NONE, x -> x.nth(-2, 0), x -> x.nth(2, 0), x -> x.nth(0, -1), x -> x.nth(1, LEAST));
        state.refused("23 what", 1, NOTHING, x -> x.mean(0, last, -1), x -> x.mean(0, last, 2), x -> x.mean(1, 0, 2));
        state.refused("23", 2, NOTHING, x -> x.mean(-1, last, 0), x -> x.mean(0, clocks, 1), x -> x.mean(1, 0, 0));
        state.refused("24", 2, NONE, x -> x.octet(-1), x -> x.octet(clocks / 8), x -> x.octet(MOST), x -> x.octet(LEAST));
        state.refused("25", 2, NONE, x -> x.summed(0, 2), x -> x.summed(4, 2), x -> x.summed(1, 1), x -> x.summed(1, 33));
        state.refused("26", 2, NOTHING, x -> x.summedAt(0, 2, 0), x -> x.summedAt(4, 2, 0), x -> x.summedAt(1, 1, 0),
            x -> x.summedAt(1, 33, 0), x -> x.summedAt(1, 2, -1), x -> x.summedAt(1, 2, clocks / 2));
        state.refused("27", 2, NONE, x -> x.worst(0, 2), x -> x.worst(4, 2), x -> x.worst(1, 1), x -> x.worst(1, 33));
        if (clocks < 94) {
            state.refused("27 there is none", 5, NONE, x -> x.worst(3, 32));
        }
    }

    private static void noRoom(State state) {
        state.refused("12 no room", 3, NOTHING, x -> x.run(1), x -> x.run(2), x -> x.run(500));
        state.aside("2 more than 600", x -> x.feed(0, 0, 0, 0, 0), x -> x.feed(LEAST, MOST, 1, 2, 3));
    }

    private static void askedOfTheRun(State state) {
        state.asked("of the run", x -> x.now(4), x -> x.sum(1), x -> x.size(1), x -> x.out(36), x -> x.often(0, 0, 36),
            x -> x.astray(0, 36), x -> x.rows(0, 36, 0), x -> x.rows(0, 36, 1), x -> x.like(0, 36, 1000), x -> x.tone(0, 36, 200),
            x -> x.nth(-1, MOST), x -> x.mean(0, 36, 0), x -> x.mean(0, 36, 1), x -> x.octet(3), x -> x.summed(3, 32),
            x -> x.summedAt(3, 2, 0), x -> x.worst(2, 5));
    }

    private static void images(State bare, State told, State begun) {
        State[] none = {bare, told};
        for (State state : none) {
            state.refused("34 it wasn't kept", 1, NO, x -> x.back(0) ? 1 : 0, x -> x.back(1) ? 1 : 0);
        }
        begun.refused("34 it wasn't kept, though the other was", 1, NO, x -> x.back(1) ? 1 : 0);
    }

    // ---- the test's own

    /** A picture that didn't tell of a change would let all of this pass. */
    private static void picturesTellApart(State[] all) {
        for (State state : all) {
            unlike(state, "feed", x -> x.text(0));
            unlike(state, "seed", x -> x.seed(78) ? 1 : 0);
        }
        for (int i = 1; i < all.length; i++) {
            unlike(all[i], "begin", x -> x.begin(2, 1) ? 1 : 0);
            unlike(all[i], "keep", x -> x.keep(0) ? 1 : 0);
            unlike(all[i], "text", x -> x.text(20));
        }
        unlike(all[1], "feed", x -> x.feed(0x24242424, 0, 0, 0, 0));
        unlike(all[2], "run", x -> x.run(1));
        unlike(all[3], "run", x -> x.run(1));
        unlike(all[3], "back", x -> x.back(0) ? 1 : 0);
        unlike(all[3], "back", x -> x.back(1) ? 1 : 0);
        unlike(all[3], "keep 1", x -> x.keep(1) ? 1 : 0);
    }

    private static void unlike(State state, String told, Call call) {
        LevelBits x = state.maker.get();
        call.of(x);
        CHECK.due(state.name + ": a picture tells of " + told, Picture.of(x).equals(state.picture), false);
    }
}
