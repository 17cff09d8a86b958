/** "Terms" II of runs, and promises 10 to 27: each sentence that names an edge has a method of its own here. */
public final class EdgesOfRunTest {
    private static final int NONE = Check.NONE;
    private static final int NOTHING = Check.NOTHING;
    private static final int MOST = Integer.MAX_VALUE;
    private static final int LEAST = Integer.MIN_VALUE;
    private static final Check CHECK = new Check();

    /** By wave 0: 1, then -1 for ever (sums 0, then -2,000). By wave 1: 1 at each 200th clock, else -1. */
    private static final String STILL = "loop l by 16 bound 9999;wave w hold -1000 for 1;"
        + "wave v hold -1000 for 199,hold 1000 for 1";
    /** Outs 1 -1 1 -1 1 1 -1 1 again and again; sums behind them -750 500 -250 1000 250 -500 750 0. */
    private static final String EIGHT = "loop l by 16 bound 9999;wave w hold 250 for 1";

    private interface Stretched {
        long of(LevelBits x, int a, int b);
    }

    public static void main(String[] args) {
        registersStep();
        registersStandWithoutNoise();
        noiseByTheBitBehindTheStep();
        twoValues();
        threeValues();
        noiseIsAdded();
        downwardsBySixteen();
        heldWithinTheBound();
        clipsAreCountedStageByStage();
        stagesTakeTheSumAsItIsNow();
        seedEdges();
        seedIsOfRunsFromNowOn();
        beginEdges();
        beginWithoutLoopsOrWaves();
        anotherRunIsGone();
        runEdges();
        runUpTo4096();
        runAddsOuts();
        nowEdges();
        sumEdges();
        sizeEdges();
        outEdges();
        stretches();
        stretchesOfNoClocks();
        stretchesOfAFullRun();
        oftenEdges();
        astrayEdges();
        rowsEdges();
        likeEdges();
        toneEdges();
        toneOfPartsNotOfNumbers();
        nthEdges();
        meanEdges();
        octetEdges();
        summedEdges();
        summedOnceAllOutsWere();
        summedOfAFullRun();
        summedAtEdges();
        worstEdges();
        CHECK.end("edges of runs");
    }

    private static LevelBits ran(String text, int wave, int clocks) {
        LevelBits x = Check.of(text);
        x.begin(0, wave);
        goOn(x, clocks);
        return x;
    }

    private static void goOn(LevelBits x, int clocks) {
        for (int left = clocks; left > 0; left -= 500) {
            x.run(Math.min(500, left));
        }
    }

    // ---- clocks

    private static void registersStep() {
        int[][] due = {{1, 32768}, {2, 1}, {4, 32770}, {8, 32772}, {16, 8}, {32, 32784}, {64, 32}, {128, 64},
            {32768, 16384}, {3, 32769}, {5, 2}, {9, 4}, {33, 16}, {12, 6}, {36, 18}, {40, 20}, {13, 32774}, {45, 22},
            {65535, 32767}, {65534, 65535}, {65490, 32745}, {65491, 65513}};
        LevelBits x = Check.of("loop l by 16 bound 9999 noise 1;wave w hold 0 for 1");
        for (int[] d : due) {
            x.seed(d[0]);
            x.begin(0, 0);
            CHECK.left(x, "II register " + d[0], x.now(3), d[0], 0);
            x.run(1);
            CHECK.left(x, "II register behind " + d[0], x.now(3), d[1], 0);
        }
    }

    private static void registersStandWithoutNoise() {
        LevelBits x = Check.of(EIGHT);
        x.seed(65535);
        x.begin(0, 0);
        x.run(500);
        CHECK.left(x, "II register", x.now(3), 65535, 0);
    }

    private static void noiseByTheBitBehindTheStep() {
        LevelBits x = Check.of("loop l by 16 bound 9999 noise 1;wave w hold 0 for 1");
        // 1 becomes 32,768: bit 0 is 0
        x.seed(1);
        x.begin(0, 0);
        CHECK.left(x, "II 0 less NOISE", x.run(1), -1, 0);
        // 2 becomes 1
        x.seed(2);
        x.begin(0, 0);
        CHECK.left(x, "II NOISE", x.run(1), 1, 0);
    }

    private static void twoValues() {
        LevelBits x = Check.of("loop l by 16 bound 9999;wave w hold 1000 for 1;wave v hold 999 for 1");
        x.begin(0, 0);
        // D 0 always: the sum stays at 0
        CHECK.left(x, "II Q 0", x.run(10), 10, 0);
        x.begin(0, 1);
        CHECK.left(x, "II Q 0 first", x.run(1), 1, 0);
        CHECK.left(x, "II sum -1", x.sum(0), -1, 0);
        CHECK.left(x, "II Q -1", x.run(1), -1, 0);
    }

    private static void threeValues() {
        int[][] due = {{499, 0}, {500, 1}, {501, 1}, {-499, 0}, {-500, -1}, {-501, -1}, {0, 0}};
        for (int[] d : due) {
            LevelBits x = Check.of("loop l by 16 bound 9999 three;wave w hold " + d[0] + " for 1");
            x.begin(0, 0);
            CHECK.left(x, "II three at 0", x.run(1), 0, 0);
            CHECK.left(x, "II three sum", x.sum(0), d[0], 0);
            CHECK.left(x, "II three at " + d[0], x.run(1), d[1], 0);
        }
    }

    private static void noiseIsAdded() {
        int[][] due = {{499, 0, 0}, {500, -1, 1}, {501, -1, 1}, {999, -1, 1}, {1, 0, 0}};
        for (int[] d : due) {
            LevelBits x = Check.of("loop l by 16 bound 9999 three noise " + d[0] + ";wave w hold 0 for 1");
            x.begin(0, 0);
            CHECK.left(x, "II 0 less NOISE " + d[0], x.run(1), d[1], 0);
            x.seed(2);
            x.begin(0, 0);
            CHECK.left(x, "II NOISE " + d[0], x.run(1), d[2], 0);
        }
        // from 1: out -1 by -5; then 5 less 5 is 0, 4 less 5 is below it
        LevelBits y = Check.of("loop l by 16 bound 9999 noise 5;wave w hold -995 for 1;wave v hold -996 for 1");
        y.begin(0, 0);
        y.run(1);
        CHECK.left(y, "II sum 5", y.sum(0), 5, 0);
        CHECK.left(y, "II Q 0", y.run(1), 1, 0);
        y.begin(0, 1);
        y.run(1);
        CHECK.left(y, "II sum 4", y.sum(0), 4, 0);
        CHECK.left(y, "II Q -1", y.run(1), -1, 0);
    }

    private static void downwardsBySixteen() {
        int[][] due = {{15, 0}, {16, 1}, {17, 1}, {31, 1}, {32, 2}, {0, 0}, {-1, -1}, {-15, -1}, {-16, -1}, {-17, -2},
            {-32, -2}, {-33, -3}, {1000, 62}, {-1000, -63}};
        for (int[] d : due) {
            LevelBits x = Check.of("loop l by 1 bound 9999 three;loop k by 32 bound 9999 three;wave w hold " + d[0] + " for 1");
            x.begin(0, 0);
            x.run(1);
            CHECK.left(x, "II by 1 of " + d[0], x.sum(0), d[1], 0);
            CHECK.left(x, "29 by 1 of " + d[0], x.fed(0, 0, d[0], 1), d[1], 0);
            x.begin(1, 0);
            x.run(1);
            CHECK.left(x, "II by 32 of " + d[0], x.sum(0), 2 * d[0], 0);
        }
    }

    private static void heldWithinTheBound() {
        // 499, out 0 again, and the second level: 1,000, 1,001; below 0 likewise
        int[][] due = {{499, 501, 1000, 0}, {499, 502, 1000, 1}, {499, 500, 999, 0},
            {-499, -501, -1000, 0}, {-499, -502, -1000, 1}, {-499, -500, -999, 0}};
        for (int[] d : due) {
            LevelBits x = Check.of("loop l by 16 bound 1000 three;wave w hold " + d[0] + " for 1,hold " + d[1] + " for 1");
            x.begin(0, 0);
            x.run(2);
            CHECK.left(x, "II sum of " + d[1], x.sum(0), d[2], 0);
            CHECK.left(x, "II clips of " + d[1], x.now(4), d[3], 0);
            CHECK.left(x, "II size of " + d[1], x.size(0), Math.abs(d[2]), 0);
        }
        LevelBits y = Check.of("loop l by 32 bound 9999;wave w hold -1000 for 1,hold 1000 for 500");
        y.begin(0, 0);
        // -4,000, then 4,000 more a clock as long as it is below 0; at 0 the out is 1 and it stands
        y.run(500);
        CHECK.left(y, "II far within 9,999", y.now(4), 0, 0);
        LevelBits z = Check.of("loop l by 32 32 bound 9999;wave w hold -1000 for 1");
        z.begin(0, 0);
        // 2 * -2,000 = -4,000; 2 * -5,000 = -10,000
        z.run(1);
        CHECK.left(z, "II 9,999", z.sum(1), -9999, 0);
        CHECK.left(z, "II its clip", z.now(4), 1, 0);
    }

    private static void clipsAreCountedStageByStage() {
        LevelBits x = Check.of("loop l by 32 32 32 bound 1000;wave w hold -1000 for 1");
        x.begin(0, 0);
        CHECK.left(x, "II no clips", x.now(4), 0, 0);
        x.run(1);
        CHECK.left(x, "II three in a clock", x.now(4), 3, 0);
        for (int stage = 0; stage < 3; stage++) {
            CHECK.left(x, "II held " + stage, x.sum(stage), -1000, 0);
        }
        // out -1: each D is 0, the sums stand at the bound without a clip
        x.run(5);
        CHECK.left(x, "II no more", x.now(4), 3, 0);
    }

    private static void stagesTakeTheSumAsItIsNow() {
        LevelBits x = Check.of("loop l by 32 4 bound 1000;wave w hold 0 for 1");
        x.begin(0, 0);
        x.run(1);
        // -2,000 is held at -1,000; 4 * -2,000 by 16
        CHECK.left(x, "II held", x.sum(0), -1000, 0);
        CHECK.left(x, "II by the held one", x.sum(1), -500, 0);
    }

    // ---- promises 10 to 16

    private static void seedEdges() {
        LevelBits x = Check.of(EIGHT);
        int[] taken = {1, 2, 32768, 65534, 65535};
        int[] wrong = {0, -1, 65536, MOST, LEAST};
        for (int v : taken) {
            CHECK.left(x, "10 seed " + v, x.seed(v), true, 0);
            for (int n : wrong) {
                CHECK.left(x, "10 seed " + n, x.seed(n), false, 2);
            }
            x.begin(0, 0);
            CHECK.left(x, "10 the last that was taken", x.now(3), v, 0);
        }
        LevelBits y = new LevelBits();
        CHECK.left(y, "10 without a TEXT", y.seed(65535), true, 0);
        CHECK.left(y, "10 without a TEXT, wrong", y.seed(0), false, 2);
    }

    private static void seedIsOfRunsFromNowOn() {
        LevelBits x = Check.of("loop l by 16 bound 9999 noise 1;wave w hold 0 for 1");
        x.begin(0, 0);
        x.seed(2);
        CHECK.left(x, "10 the run's own", x.now(3), 1, 0);
        CHECK.left(x, "10 the run goes on with it", x.run(1), -1, 0);
        CHECK.left(x, "10 and steps it", x.now(3), 32768, 0);
        x.begin(0, 0);
        CHECK.left(x, "10 of the next", x.now(3), 2, 0);
        x.run(7);
        x.begin(0, 0);
        CHECK.left(x, "10 of the one behind it, too", x.now(3), 2, 0);
    }

    private static void beginEdges() {
        LevelBits x = Check.of("loop a by 1 bound 1000;loop b by 1 bound 1000;loop c by 1 bound 1000;loop d by 1 bound 1000;"
            + "wave e hold 1 for 1;wave f hold 1 for 1;wave g hold 1 for 1;wave h hold 1 for 1");
        for (int l = 0; l < 4; l++) {
            for (int w = 0; w < 4; w++) {
                CHECK.left(x, "11 begin", x.begin(l, w), true, 0);
                CHECK.left(x, "11 its loop", x.now(0), l, 0);
                CHECK.left(x, "11 its wave", x.now(1), w, 0);
            }
        }
        int[] wrong = {-1, 4, MOST, LEAST};
        for (int n : wrong) {
            CHECK.left(x, "11 loop " + n, x.begin(n, 0), false, 1);
            CHECK.left(x, "11 wave " + n, x.begin(0, n), false, 1);
            CHECK.left(x, "11 the run stays", x.now(0), 3, 0);
            CHECK.left(x, "11 the run stays by its wave", x.now(1), 3, 0);
        }
    }

    private static void beginWithoutLoopsOrWaves() {
        LevelBits x = new LevelBits();
        CHECK.left(x, "11 no TEXT", x.begin(0, 0), false, 1);
        Check.text(x, "loop a by 1 bound 1000");
        CHECK.left(x, "11 no WAVE", x.begin(0, 0), false, 1);
        Check.text(x, "wave a hold 1 for 1");
        CHECK.left(x, "11 no LOOP", x.begin(0, 0), false, 1);
        CHECK.left(x, "11 no RUN", x.now(2), NONE, 1);
    }

    private static void anotherRunIsGone() {
        LevelBits x = Check.of("loop l by 32 32 32 bound 1000 noise 9;loop k by 16 bound 9999;wave w hold -1000 for 1");
        x.begin(0, 0);
        goOn(x, 4096);
        CHECK.left(x, "11 begin", x.begin(1, 0), true, 0);
        CHECK.left(x, "11 no clocks", x.now(2), 0, 0);
        CHECK.left(x, "11 no clips", x.now(4), 0, 0);
        CHECK.left(x, "11 the first register", x.now(3), 1, 0);
        CHECK.left(x, "11 sum 0", x.sum(0), 0, 0);
        CHECK.left(x, "11 size 0", x.size(0), 0, 0);
        CHECK.left(x, "11 its stages alone", x.sum(1), NOTHING, 1);
        CHECK.left(x, "11 no outs", x.out(0), NOTHING, 2);
        CHECK.left(x, "11 room again", x.run(500), -498, 0);
        CHECK.left(x, "11 begin the first again", x.begin(0, 0), true, 0);
        CHECK.left(x, "11 its sums are 0", x.sum(2), 0, 0);
        CHECK.left(x, "11 its sizes are 0", x.size(2), 0, 0);
    }

    private static void runEdges() {
        LevelBits x = Check.of(STILL);
        CHECK.left(x, "12 no RUN", x.run(1), NOTHING, 1);
        CHECK.left(x, "12 no RUN is told first", x.run(0), NOTHING, 1);
        x.begin(0, 0);
        int[] wrong = {0, -1, 501, MOST, LEAST};
        for (int n : wrong) {
            CHECK.left(x, "12 " + n, x.run(n), NOTHING, 2);
            CHECK.left(x, "12 no clock by " + n, x.now(2), 0, 0);
        }
        CHECK.left(x, "12 1", x.run(1), 1, 0);
        CHECK.left(x, "12 one clock", x.now(2), 1, 0);
        CHECK.left(x, "12 500", x.run(500), -500, 0);
        CHECK.left(x, "12 501 clocks", x.now(2), 501, 0);
    }

    private static void runUpTo4096() {
        LevelBits x = ran(STILL, 0, 4000);
        CHECK.left(x, "12 97 more", x.run(97), NOTHING, 3);
        CHECK.left(x, "12 500 more", x.run(500), NOTHING, 3);
        CHECK.left(x, "12 2 is told ahead of 3", x.run(501), NOTHING, 2);
        CHECK.left(x, "12 none came", x.now(2), 4000, 0);
        CHECK.left(x, "12 95 more", x.run(95), -95, 0);
        CHECK.left(x, "12 2 more", x.run(2), NOTHING, 3);
        CHECK.left(x, "12 the last", x.run(1), -1, 0);
        CHECK.left(x, "12 4,096", x.now(2), 4096, 0);
        CHECK.left(x, "12 none more", x.run(1), NOTHING, 3);
        CHECK.left(x, "12 nor 0", x.run(0), NOTHING, 2);
        CHECK.left(x, "12 still 4,096", x.now(2), 4096, 0);
        CHECK.left(x, "12 its last out", x.out(4095), -1, 0);
        LevelBits y = ran(STILL, 0, 3596);
        CHECK.left(y, "12 500 to the last", y.run(500), -500, 0);
        CHECK.left(y, "12 full", y.run(1), NOTHING, 3);
    }

    private static void runAddsOuts() {
        LevelBits x = Check.of(EIGHT);
        x.begin(0, 0);
        int[] outs = {1, -1, 1, -1, 1, 1, -1, 1};
        for (int t = 0; t < 24; t++) {
            CHECK.left(x, "12 out " + t, x.run(1), outs[t % 8], 0);
        }
        CHECK.left(x, "12 eight", x.run(8), 2, 0);
        CHECK.left(x, "12 five of them", x.run(5), 1, 0);
        CHECK.left(x, "12 the other three alone", x.run(3), 1, 0);
    }

    private static void nowEdges() {
        LevelBits x = Check.of(EIGHT);
        CHECK.left(x, "13 no RUN", x.now(0), NONE, 1);
        x.begin(0, 0);
        int[] due = {0, 0, 0, 1, 0};
        for (int what = 0; what < 5; what++) {
            CHECK.left(x, "13 what " + what, x.now(what), due[what], 0);
        }
        int[] wrong = {-1, 5, MOST, LEAST};
        for (int what : wrong) {
            CHECK.left(x, "13 what " + what, x.now(what), NONE, 1);
        }
    }

    private static void sumEdges() {
        String[] loops = {"loop l by 16 bound 9999", "loop l by 16 16 bound 9999", "loop l by 16 16 16 bound 9999"};
        // 0 less 2,000; that less 1,000; that less 1,000
        int[] due = {-2000, -3000, -4000};
        for (int stages = 1; stages <= 3; stages++) {
            LevelBits x = Check.of(loops[stages - 1] + ";wave w hold -1000 for 1");
            CHECK.left(x, "14 no RUN", x.sum(0), NOTHING, 1);
            CHECK.left(x, "15 no RUN", x.size(0), NONE, 1);
            x.begin(0, 0);
            x.run(1);
            for (int stage = 0; stage < stages; stage++) {
                CHECK.left(x, "14 stage " + stage, x.sum(stage), due[stage], 0);
                CHECK.left(x, "15 stage " + stage, x.size(stage), -due[stage], 0);
            }
            int[] wrong = {-1, stages, 3, MOST, LEAST};
            for (int stage : wrong) {
                CHECK.left(x, "14 no stage " + stage, x.sum(stage), NOTHING, 1);
                CHECK.left(x, "15 no stage " + stage, x.size(stage), NONE, 1);
            }
        }
    }

    private static void sizeEdges() {
        LevelBits x = Check.of(EIGHT);
        x.begin(0, 0);
        CHECK.left(x, "15 ahead of any", x.size(0), 0, 0);
        int[] sizes = {750, 750, 750, 1000, 1000, 1000, 1000, 1000, 1000};
        for (int t = 0; t < 9; t++) {
            x.run(1);
            CHECK.left(x, "15 behind " + t, x.size(0), sizes[t], 0);
        }
        LevelBits y = Check.of("loop l by 16 bound 9999;wave w hold 1000 for 1");
        y.begin(0, 0);
        y.run(9);
        CHECK.left(y, "15 0 behind many", y.size(0), 0, 0);
        // in one run() of many clocks, not of the last one alone
        LevelBits z = ran(EIGHT, 0, 8);
        CHECK.left(z, "15 of all clocks", z.size(0), 1000, 0);
        CHECK.left(z, "14 of the last", z.sum(0), 0, 0);
    }

    private static void outEdges() {
        LevelBits x = Check.of(EIGHT);
        CHECK.left(x, "16 no RUN", x.out(0), NOTHING, 1);
        CHECK.left(x, "16 no RUN is told first", x.out(-1), NOTHING, 1);
        x.begin(0, 0);
        CHECK.left(x, "16 no clock", x.out(0), NOTHING, 2);
        x.run(3);
        int[] outs = {1, -1, 1};
        for (int t = 0; t < 3; t++) {
            CHECK.left(x, "16 out " + t, x.out(t), outs[t], 0);
        }
        int[] wrong = {-1, 3, 4095, 4096, MOST, LEAST};
        for (int t : wrong) {
            CHECK.left(x, "16 no clock " + t, x.out(t), NOTHING, 2);
        }
        LevelBits y = ran(STILL, 1, 4096);
        CHECK.left(y, "16 clock 4,095", y.out(4095), -1, 0);
        CHECK.left(y, "16 clock 4,000", y.out(4000), 1, 0);
        CHECK.left(y, "16 clock 4,096", y.out(4096), NOTHING, 2);
    }

    // ---- stretches

    private static final Stretched[] CALLS = {(x, a, b) -> x.often(1, a, b), (x, a, b) -> x.astray(a, b),
        (x, a, b) -> x.rows(a, b, 0), (x, a, b) -> x.rows(a, b, 1), (x, a, b) -> x.like(a, b, 1),
        (x, a, b) -> x.tone(a, b, 1), (x, a, b) -> x.mean(a, b, 0), (x, a, b) -> x.mean(a, b, 1)};
    private static final int[] REFUSED = {NONE, NOTHING, NONE, NONE, NONE, NONE, NOTHING, NOTHING};

    private static void granted(LevelBits x, int a, int b, int... due) {
        for (int i = 0; i < CALLS.length; i++) {
            CHECK.left(x, "II stretch " + a + " .. " + b + " of call " + i, CALLS[i].of(x, a, b), due[i], 0);
        }
    }

    private static void refused(LevelBits x, int trouble, int a, int b) {
        for (int i = 0; i < CALLS.length; i++) {
            CHECK.left(x, "II no stretch " + a + " .. " + b + " of call " + i, CALLS[i].of(x, a, b), REFUSED[i], trouble);
        }
    }

    /** Of the outs 1 -1 1 -1 1 1 -1 1 by 250. */
    private static void stretches() {
        LevelBits x = ran(EIGHT, 0, 8);
        granted(x, 0, 0, 1, 750, 1, 0, 0, -2, 1, 1);
        granted(x, 1, 1, 0, -1250, 1, 0, 0, -2, -1, 1);
        granted(x, 7, 7, 1, 750, 1, 0, 0, -2, 1, 1);
        granted(x, 0, 1, 1, -500, 1, 1, 0, 1, 0, 1);
        granted(x, 0, 7, 5, 0, 2, 6, 1, 1, 1, 4);
        granted(x, 4, 5, 2, 1500, 2, 0, 1, 1, 1, 1);
        granted(x, 6, 7, 1, -500, 1, 1, 0, 1, 0, 1);
        int[][] wrong = {{-1, 0}, {-1, 7}, {0, 8}, {7, 8}, {8, 8}, {1, 0}, {7, 6}, {0, -1}, {-1, -1}, {0, MOST},
            {LEAST, 0}, {LEAST, MOST}, {MOST, LEAST}, {MOST, MOST}, {LEAST, LEAST}};
        for (int[] w : wrong) {
            refused(x, 2, w[0], w[1]);
        }
        // one clock more, and the stretch was
        x.run(1);
        granted(x, 8, 8, 1, 750, 1, 0, 0, -2, 1, 1);
        refused(x, 2, 9, 9);
    }

    private static void stretchesOfNoClocks() {
        LevelBits x = Check.of(EIGHT);
        refused(x, 1, 0, 0);
        refused(x, 1, 1, 0);
        x.begin(0, 0);
        refused(x, 2, 0, 0);
        refused(x, 2, 0, -1);
        refused(new LevelBits(), 1, 0, 0);
    }

    private static void stretchesOfAFullRun() {
        LevelBits x = ran(STILL, 0, 4096);
        granted(x, 0, 4095, 1, 2000, 4095, 1, 4094, 1, -2047, 2048);
        granted(x, 1, 4095, 0, 0, 4095, 0, 4094, 1, -1, 1);
        granted(x, 4095, 4095, 0, 0, 1, 0, 0, -2, -1, 1);
        refused(x, 2, 0, 4096);
        refused(x, 2, 4096, 4096);
    }

    private static void oftenEdges() {
        LevelBits x = ran("loop l by 16 bound 9999 three;wave w hold 250 for 1", 0, 5);
        // 0 250 500 -250 0: outs 0 0 1 0 0
        CHECK.left(x, "17 -1", x.often(-1, 0, 4), 0, 0);
        CHECK.left(x, "17 0", x.often(0, 0, 4), 4, 0);
        CHECK.left(x, "17 1", x.often(1, 0, 4), 1, 0);
        int[] wrong = {-2, 2, MOST, LEAST, 256, 255};
        for (int value : wrong) {
            CHECK.left(x, "17 value " + value, x.often(value, 0, 4), NONE, 2);
        }
        CHECK.left(x, "17 both in it", x.often(1, 2, 2), 1, 0);
        CHECK.left(x, "17 ahead of it", x.often(1, 0, 1), 0, 0);
        CHECK.left(x, "17 behind it", x.often(1, 3, 4), 0, 0);
        LevelBits y = ran(EIGHT, 0, 8);
        CHECK.left(y, "17 0 of two VALUES", y.often(0, 0, 7), 0, 0);
        LevelBits z = Check.of(EIGHT);
        CHECK.left(z, "17 no RUN is told first", z.often(2, 0, 0), NONE, 1);
    }

    private static void astrayEdges() {
        LevelBits x = ran("loop l by 1 bound 9999;wave w hold 1000 for 1,hold -1000 for 500,hold -999 for 1", 0, 4096);
        // the levels that were fed, clock by clock, not those of the stretch from 0 on
        CHECK.left(x, "18 the first", x.astray(0, 0), 0, 0);
        CHECK.left(x, "18 the second", x.astray(1, 1), 2000, 0);
        CHECK.left(x, "18 clock 501", x.astray(501, 501), 1000 * x.out(501) + 999, 0);
        CHECK.left(x, "18 anew", x.astray(502, 502), 1000 * x.out(502) - 1000, 0);
        CHECK.left(x, "18 both", x.astray(0, 1), 2000, 0);
    }

    private static void rowsEdges() {
        LevelBits x = ran(EIGHT, 0, 16);
        // clock 7 and 8 are 1, too
        CHECK.left(x, "19 a row at the end", x.rows(6, 8, 0), 2, 0);
        CHECK.left(x, "19 a row cut", x.rows(6, 7, 0), 1, 0);
        CHECK.left(x, "19 a row at the begin", x.rows(7, 9, 0), 2, 0);
        CHECK.left(x, "19 a row cut ahead", x.rows(8, 9, 0), 1, 0);
        CHECK.left(x, "19 two rows aren't one", x.rows(4, 8, 0), 2, 0);
        CHECK.left(x, "19 changes, both in it", x.rows(8, 9, 1), 1, 0);
        CHECK.left(x, "19 changes, one alone in it", x.rows(9, 9, 1), 0, 0);
        int[] wrong = {-1, 2, MOST, LEAST};
        for (int what : wrong) {
            CHECK.left(x, "19 what " + what, x.rows(0, 7, what), NONE, 1);
            CHECK.left(x, "19 what is told ahead of the stretch", x.rows(7, 0, what), NONE, 1);
        }
        LevelBits y = Check.of(EIGHT);
        CHECK.left(y, "19 no RUN", y.rows(0, 0, 0), NONE, 1);
        LevelBits u = ran(STILL, 1, 4096);
        CHECK.left(u, "19 rows of 199", u.rows(0, 4095, 0), 199, 0);
        CHECK.left(u, "19 a shorter one behind a longer one", u.rows(150, 250, 0), 50, 0);
        CHECK.left(u, "19 changes there", u.rows(150, 250, 1), 2, 0);
        LevelBits z = ran("loop l by 16 bound 9999;wave w hold 1000 for 1", 0, 4096);
        CHECK.left(z, "19 all", z.rows(0, 4095, 0), 4096, 0);
        CHECK.left(z, "19 no change", z.rows(0, 4095, 1), 0, 0);
        LevelBits v = ran("loop l by 16 bound 9999;wave w hold 0 for 1", 0, 4096);
        CHECK.left(v, "19 no row", v.rows(0, 4095, 0), 1, 0);
        CHECK.left(v, "19 all change", v.rows(0, 4095, 1), 4095, 0);
    }

    private static void likeEdges() {
        LevelBits x = ran(STILL, 0, 4096);
        CHECK.left(x, "20 lag 1", x.like(0, 4095, 1), 4094, 0);
        CHECK.left(x, "20 lag 1,000", x.like(0, 4095, 1000), 3095, 0);
        CHECK.left(x, "20 the longest stretch without a pair", x.like(1, 1000, 1000), 0, 0);
        CHECK.left(x, "20 one pair", x.like(1, 1001, 1000), 1, 0);
        CHECK.left(x, "20 one pair unlike", x.like(0, 1000, 1000), 0, 0);
        CHECK.left(x, "20 two pairs", x.like(1, 1002, 1000), 2, 0);
        CHECK.left(x, "20 of one clock", x.like(5, 5, 1), 0, 0);
        CHECK.left(x, "20 at the run's end", x.like(4094, 4095, 1), 1, 0);
        int[] wrong = {0, -1, 1001, MOST, LEAST};
        for (int lag : wrong) {
            CHECK.left(x, "20 lag " + lag, x.like(0, 4095, lag), NONE, 2);
        }
        LevelBits y = Check.of(STILL);
        CHECK.left(y, "20 no RUN is told first", y.like(0, 0, 0), NONE, 1);
    }

    private static void toneEdges() {
        LevelBits x = ran(STILL, 1, 4096);
        CHECK.left(x, "21 lag 200", x.tone(0, 4095, 200), 200, 0);
        CHECK.left(x, "21 lag 200 by one pair", x.tone(0, 200, 200), 200, 0);
        CHECK.left(x, "21 lag 200 by one pair later on", x.tone(200, 400, 200), 200, 0);
        CHECK.left(x, "21 most 199", x.tone(0, 200, 199), 1, 0);
        CHECK.left(x, "21 without that pair", x.tone(0, 199, 200), 1, 0);
        CHECK.left(x, "21 most 1", x.tone(0, 4095, 1), 1, 0);
        // clocks 1 .. 199 are all like: each lag's part is the whole
        CHECK.left(x, "21 of like ones the least", x.tone(1, 199, 200), 1, 0);
        CHECK.left(x, "21 no pair is like", x.tone(0, 1, 200), 1, 0);
        CHECK.left(x, "21 no pair by any", x.tone(0, 0, 200), -2, 0);
        CHECK.left(x, "21 no pair at the run's end", x.tone(4095, 4095, 1), -2, 0);
        int[] wrong = {0, -1, 201, MOST, LEAST};
        for (int most : wrong) {
            CHECK.left(x, "21 most " + most, x.tone(0, 4095, most), NONE, 2);
        }
        LevelBits y = Check.of(STILL);
        CHECK.left(y, "21 no RUN is told first", y.tone(1, 0, 0), NONE, 1);
    }

    /** Eight times eight outs: by lag 3 45 of 61, by lag 5 45 of 59, by lag 8 and 16 all. */
    private static void toneOfPartsNotOfNumbers() {
        LevelBits x = ran(EIGHT, 0, 64);
        CHECK.left(x, "21 like by 3", x.like(0, 63, 3), 45, 0);
        CHECK.left(x, "21 like by 5", x.like(0, 63, 5), 45, 0);
        CHECK.left(x, "21 most 4", x.tone(0, 63, 4), 3, 0);
        CHECK.left(x, "21 most 5", x.tone(0, 63, 5), 5, 0);
        CHECK.left(x, "21 most 7", x.tone(0, 63, 7), 5, 0);
        CHECK.left(x, "21 most 8", x.tone(0, 63, 8), 8, 0);
        CHECK.left(x, "21 most 200", x.tone(0, 63, 200), 8, 0);
    }

    private static void nthEdges() {
        LevelBits x = Check.of(STILL);
        CHECK.left(x, "22 no RUN is told first", x.nth(2, -1), NONE, 1);
        x.begin(0, 0);
        CHECK.left(x, "22 no clocks", x.nth(1, 0), -2, 0);
        goOn(x, 4096);
        CHECK.left(x, "22 the first", x.nth(1, 0), 0, 0);
        CHECK.left(x, "22 no second", x.nth(1, 1), -2, 0);
        CHECK.left(x, "22 the first -1", x.nth(-1, 0), 1, 0);
        CHECK.left(x, "22 the last -1", x.nth(-1, 4094), 4095, 0);
        CHECK.left(x, "22 none behind it", x.nth(-1, 4095), -2, 0);
        CHECK.left(x, "22 no 0", x.nth(0, 0), -2, 0);
        CHECK.left(x, "22 far", x.nth(-1, MOST), -2, 0);
        CHECK.left(x, "22 i -1", x.nth(1, -1), NONE, 2);
        CHECK.left(x, "22 i least", x.nth(1, LEAST), NONE, 2);
        int[] wrong = {-2, 2, MOST, LEAST};
        for (int value : wrong) {
            CHECK.left(x, "22 value " + value, x.nth(value, 0), NONE, 2);
        }
        LevelBits y = ran("loop l by 16 bound 9999 three;wave w hold 250 for 1", 0, 5);
        int[] zeros = {0, 1, 3, 4, -2};
        for (int i = 0; i < 5; i++) {
            CHECK.left(y, "22 zero " + i, y.nth(0, i), zeros[i], 0);
        }
        CHECK.left(y, "22 the one", y.nth(1, 0), 2, 0);
    }

    private static void meanEdges() {
        LevelBits x = ran(STILL, 0, 4096);
        // 1 less 4,095 by 4,096
        CHECK.left(x, "23 above", x.mean(0, 4095, 0), -2047, 0);
        CHECK.left(x, "23 below", x.mean(0, 4095, 1), 2048, 0);
        CHECK.left(x, "23 -4,095 by 4,095", x.mean(1, 4095, 0), -1, 0);
        CHECK.left(x, "23 -4,095 by 4,095 below", x.mean(1, 4095, 1), 1, 0);
        CHECK.left(x, "23 0 by 2", x.mean(0, 1, 0), 0, 0);
        CHECK.left(x, "23 0 by 2 below", x.mean(0, 1, 1), 1, 0);
        CHECK.left(x, "23 -1 by 3", x.mean(0, 2, 0), -1, 0);
        CHECK.left(x, "23 -1 by 3 below", x.mean(0, 2, 1), 3, 0);
        CHECK.left(x, "23 -2 by 4", x.mean(0, 3, 0), -1, 0);
        CHECK.left(x, "23 -2 by 4 below", x.mean(0, 3, 1), 2, 0);
        // -4,093 by 4,095: nothing in common
        CHECK.left(x, "23 lowest already", x.mean(0, 4094, 0), -4093, 0);
        CHECK.left(x, "23 lowest already below", x.mean(0, 4094, 1), 4095, 0);
        LevelBits y = ran(STILL, 1, 700);
        // 2 less 205 by 207: nothing in common; 3 less 600 by 603: 3
        CHECK.left(y, "23 -203 by 207", y.mean(0, 206, 0), -203, 0);
        CHECK.left(y, "23 -203 by 207 below", y.mean(0, 206, 1), 207, 0);
        CHECK.left(y, "23 -597 by 603", y.mean(1, 603, 0), -199, 0);
        CHECK.left(y, "23 -597 by 603 below", y.mean(1, 603, 1), 201, 0);
        int[] wrong = {-1, 2, MOST, LEAST};
        for (int what : wrong) {
            CHECK.left(x, "23 what " + what, x.mean(0, 7, what), NOTHING, 1);
            CHECK.left(x, "23 what is told ahead of the stretch", x.mean(7, 0, what), NOTHING, 1);
        }
    }

    private static void octetEdges() {
        LevelBits x = Check.of(EIGHT);
        CHECK.left(x, "24 no RUN is told first", x.octet(-1), NONE, 1);
        x.begin(0, 0);
        CHECK.left(x, "24 no clocks", x.octet(0), NONE, 2);
        x.run(7);
        CHECK.left(x, "24 seven", x.octet(0), NONE, 2);
        x.run(1);
        CHECK.left(x, "24 eight", x.octet(0), 0b10101101, 0);
        x.run(7);
        CHECK.left(x, "24 fifteen", x.octet(1), NONE, 2);
        x.run(1);
        CHECK.left(x, "24 sixteen", x.octet(1), 0b10101101, 0);
        // times 8 some of these are within the run again as ints
        int[] wrong = {-1, 2, 512, 1 << 29, (1 << 29) + 1, 1 << 30, 3 << 29, MOST, LEAST};
        for (int i : wrong) {
            CHECK.left(x, "24 octet " + i, x.octet(i), NONE, 2);
        }
        LevelBits y = ran(STILL, 0, 4095);
        CHECK.left(y, "24 4,095 clocks", y.octet(511), NONE, 2);
        y.run(1);
        CHECK.left(y, "24 4,096 clocks", y.octet(511), 0, 0);
        CHECK.left(y, "24 the first clock's is the highest", y.octet(0), 128, 0);
        CHECK.left(y, "24 512", y.octet(512), NONE, 2);
        LevelBits z = ran("loop l by 16 bound 9999;wave w hold 1000 for 1", 0, 8);
        CHECK.left(z, "24 all ones", z.octet(0), 255, 0);
        LevelBits v = ran("loop l by 16 bound 9999 three;wave w hold 0 for 1", 0, 8);
        CHECK.left(v, "24 all 0", v.octet(0), 0, 0);
    }

    // ---- summed

    private static void summedEdges() {
        LevelBits x = ran(STILL, 0, 200);
        int[][] taken = {{1, 2, 100}, {3, 2, 99}, {1, 32, 6}, {3, 32, 4}, {2, 17, 10}};
        for (int[] n : taken) {
            CHECK.left(x, "25 order " + n[0] + " by " + n[1], x.summed(n[0], n[1]), n[2], 0);
        }
        int[][] wrong = {{0, 2}, {4, 2}, {1, 1}, {1, 33}, {0, 1}, {4, 33}, {-1, 2}, {1, -1}, {1, 0}, {MOST, 2}, {1, MOST},
            {LEAST, 2}, {1, LEAST}};
        for (int[] n : wrong) {
            CHECK.left(x, "25 order " + n[0] + " by " + n[1], x.summed(n[0], n[1]), NONE, 2);
            CHECK.left(x, "26 order " + n[0] + " by " + n[1], x.summedAt(n[0], n[1], 0), NOTHING, 2);
            CHECK.left(x, "27 order " + n[0] + " by " + n[1], x.worst(n[0], n[1]), NONE, 2);
        }
        LevelBits y = Check.of(STILL);
        CHECK.left(y, "25 no RUN is told first", y.summed(0, 0), NONE, 1);
        CHECK.left(y, "26 no RUN is told first", y.summedAt(0, 0, -1), NOTHING, 1);
        CHECK.left(y, "27 no RUN is told first", y.worst(0, 0), NONE, 1);
    }

    /** The first takes m (R - 1) + 1 outs, each one behind it R more. */
    private static void summedOnceAllOutsWere() {
        for (int m = 1; m <= 3; m++) {
            for (int by : new int[] {2, 3, 31, 32}) {
                int first = m * (by - 1) + 1;
                LevelBits x = Check.of(STILL);
                x.begin(0, 0);
                CHECK.left(x, "25 no clocks", x.summed(m, by), 0, 0);
                CHECK.left(x, "26 no clocks", x.summedAt(m, by, 0), NOTHING, 2);
                CHECK.left(x, "27 no clocks", x.worst(m, by), NONE, 5);
                x.run(first - 1);
                CHECK.left(x, "25 one out less", x.summed(m, by), 0, 0);
                CHECK.left(x, "26 one out less", x.summedAt(m, by, 0), NOTHING, 2);
                CHECK.left(x, "27 one out less", x.worst(m, by), NONE, 5);
                x.run(1);
                CHECK.left(x, "25 the first", x.summed(m, by), 1, 0);
                // -1 each but the first out, which is taken once
                int power = m == 1 ? by : m == 2 ? by * by : by * by * by;
                CHECK.left(x, "26 the first", x.summedAt(m, by, 0), 2 - power, 0);
                CHECK.left(x, "27 the first", x.worst(m, by), 2000, 0);
                CHECK.left(x, "26 no second", x.summedAt(m, by, 1), NOTHING, 2);
                x.run(by - 1);
                CHECK.left(x, "25 one out less than two", x.summed(m, by), 1, 0);
                x.run(1);
                CHECK.left(x, "25 two", x.summed(m, by), 2, 0);
                CHECK.left(x, "26 the second", x.summedAt(m, by, 1), -power, 0);
                CHECK.left(x, "26 no third", x.summedAt(m, by, 2), NOTHING, 2);
            }
        }
    }

    private static void summedOfAFullRun() {
        LevelBits x = ran(STILL, 0, 4096);
        // (4,095 less m (R - 1)) by R, downwards, and one
        int[][] due = {{1, 2, 2048, -2}, {2, 2, 2047, -4}, {3, 2, 2047, -8}, {1, 32, 128, -32}, {2, 32, 127, -1024},
            {3, 32, 126, -32768}, {1, 3, 1365, -3}, {3, 31, 130, -29791}};
        for (int[] d : due) {
            CHECK.left(x, "25 full", x.summed(d[0], d[1]), d[2], 0);
            CHECK.left(x, "26 the last", x.summedAt(d[0], d[1], d[2] - 1), d[3], 0);
            CHECK.left(x, "26 behind the last", x.summedAt(d[0], d[1], d[2]), NOTHING, 2);
            CHECK.left(x, "27 full", x.worst(d[0], d[1]), 2000, 0);
        }
    }

    private static void summedAtEdges() {
        LevelBits x = ran(EIGHT, 0, 8);
        // 0 0 2 0
        int[] due = {0, 0, 2, 0};
        for (int i = 0; i < 4; i++) {
            CHECK.left(x, "26 by 2 at " + i, x.summedAt(1, 2, i), due[i], 0);
        }
        // by 2 some of these are clocks of the run again as ints
        int[] wrong = {-1, 4, 1 << 30, 1 << 31, (1 << 31) + 1, MOST, LEAST};
        for (int i : wrong) {
            CHECK.left(x, "26 none such " + i, x.summedAt(1, 2, i), NOTHING, 2);
        }
    }

    private static void worstEdges() {
        LevelBits x = ran(EIGHT, 0, 1);
        CHECK.left(x, "27 there is none", x.worst(1, 2), NONE, 5);
        CHECK.left(x, "27 2 is told ahead of 5", x.worst(0, 2), NONE, 2);
        x.run(1);
        // 1,000 times 0, less 500: its size
        CHECK.left(x, "27 of one", x.worst(1, 2), 500, 0);
        x.run(2);
        CHECK.left(x, "27 of two", x.worst(1, 2), 500, 0);
        x.run(1);
        CHECK.left(x, "27 the fifth out is of none yet", x.worst(1, 2), 500, 0);
        x.run(1);
        // 1,000 times 2, less 500: the last one counts, too
        CHECK.left(x, "27 of three", x.worst(1, 2), 1500, 0);
        LevelBits y = ran("loop l by 16 bound 9999;wave w hold 1000 for 1", 0, 4096);
        CHECK.left(y, "27 0", y.worst(3, 32), 0, 0);
    }
}
