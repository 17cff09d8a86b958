/** "Terms" II of cycles, III of images, and promises 28 to 34: each sentence that names an edge has a method here. */
public final class EdgesOfPaperTest {
    private static final int NONE = Check.NONE;
    private static final int NOTHING = Check.NOTHING;
    private static final int MOST = Integer.MAX_VALUE;
    private static final int LEAST = Integer.MIN_VALUE;
    private static final Check CHECK = new Check();

    /** Loop one comes again at 0 behind 2, at 250 and 750 behind 8, at 500 behind 4 clocks; far has no cycle at 1. */
    private static final String TEXT = "loop one by 16 bound 9999;loop two by 32 bound 1000 noise 999;"
        + "loop thr by 16 16 16 bound 9999 three;loop far by 25 bound 9999;wave w hold 0 for 1;wave v hold -1000 for 1";

    public static void main(String[] args) {
        cycleEdges();
        cycleRefused();
        cycleOfOneClock();
        cycleWithoutNoise();
        clipsInTheCycleAlone();
        aheadAtMost3000();
        longAtMost3000();
        changesGoRound();
        fedEdges();
        fedRefused();
        sweepEdges();
        sweepAllWithin();
        sweepRefused();
        sweepTheFirstOfLikeOnes();
        sweepWithoutACycle();
        sweepWithoutClips();
        steadyEdges();
        steadyIn1000Clocks();
        apartEdges();
        apartRefused();
        apartAsRunsWouldBe();
        keepEdges();
        keepWithoutARun();
        backEdges();
        backToNoClocksAndToAll();
        imagesStay();
        imagesAreTwo();
        keptAnew();
        theRegisterThatSeedTold();
        backLeavesTheRest();
        textsAndImages();
        CHECK.end("edges of paper and images");
    }

    // ---- cycles

    private static void cycle(String told, LevelBits x, int l, int level, int... due) {
        for (int what = 0; what < 6; what++) {
            CHECK.left(x, told + " what " + what, x.cycle(l, level, what), due[what], 0);
        }
    }

    private static void cycleEdges() {
        LevelBits x = Check.of(TEXT);
        cycle("28 at 1,000", x, 0, 1000, 0, 1, 1, 0, 0, 0);
        cycle("28 at -1,000", x, 0, -1000, 1, 1, -1, 0, 2000, 0);
        cycle("28 at 0", x, 0, 0, 0, 2, 0, 0, 1000, 2);
        // 0 -750 500 -250 1000 250 -500 750
        cycle("28 at 250", x, 0, 250, 0, 8, 2, 0, 1000, 6);
    }

    private static void cycleRefused() {
        LevelBits x = Check.of(TEXT);
        int[] whats = {-1, 6, MOST, LEAST};
        for (int what : whats) {
            CHECK.left(x, "28 what " + what, x.cycle(0, 0, what), NOTHING, 1);
            CHECK.left(x, "28 what is told ahead of the level", x.cycle(0, 1001, what), NOTHING, 1);
        }
        int[] loops = {-1, 4, MOST, LEAST};
        for (int l : loops) {
            CHECK.left(x, "28 loop " + l, x.cycle(l, 0, 0), NOTHING, 1);
            CHECK.left(x, "28 loop is told ahead of the level", x.cycle(l, 1001, 0), NOTHING, 1);
        }
        int[] levels = {-1001, 1001, MOST, LEAST};
        for (int level : levels) {
            CHECK.left(x, "28 level " + level, x.cycle(0, level, 0), NOTHING, 2);
        }
        for (int what = 0; what < 6; what++) {
            CHECK.left(x, "28 there is none, what " + what, x.cycle(3, 1, what), NOTHING, 5);
        }
        LevelBits y = new LevelBits();
        CHECK.left(y, "28 no TEXT", y.cycle(0, 0, 0), NOTHING, 1);
    }

    private static void cycleOfOneClock() {
        LevelBits x = Check.of("loop a by 1 bound 9999 three;loop b by 1 bound 1000;loop c by 16 16 bound 9999 three");
        // 15 by 16 downwards is 0
        cycle("28 stands at 15", x, 0, 15, 0, 1, 0, 0, 0, 0);
        cycle("28 stands at 0", x, 2, 0, 0, 1, 0, 0, 0, 0);
        // 125 less a clock of out 1: -125, then D 0
        cycle("28 stands at -1,000", x, 1, -1000, 1, 1, -1, 0, 125, 0);
    }

    private static void cycleWithoutNoise() {
        LevelBits x = Check.of("loop a by 16 bound 9999 noise 999");
        x.seed(4711);
        cycle("28 without NOISE", x, 0, 250, 0, 8, 2, 0, 1000, 6);
    }

    private static void clipsInTheCycleAlone() {
        LevelBits x = Check.of(TEXT);
        // 0, -4,000 held at -1,000, which stands
        cycle("28 a clip ahead of it", x, 1, -1000, 1, 1, -1, 0, 1000, 0);
        // 0, -1,000 (held), 1,000 (held), -500, 1,000 (held), -500 ..
        cycle("28 clips in it", x, 1, 250, 2, 2, 0, 1, 1000, 2);
    }

    private static void aheadAndLong(String loop, int level, int ahead, int lasting) {
        LevelBits x = Check.of("loop a by " + loop);
        CHECK.left(x, "28 AHEAD of " + loop, x.cycle(0, level, 0), ahead, 0);
        CHECK.left(x, "28 LONG of " + loop, x.cycle(0, level, 1), lasting, 0);
        // fed() tells as much where it goes so far
        for (int stage = 0; stage < x.loop(0, 0) && ahead + lasting <= 3000; stage++) {
            CHECK.due("28 SUMS of " + loop, x.fed(0, stage, level, ahead), x.fed(0, stage, level, ahead + lasting));
        }
        CHECK.left(x, "30 one of " + loop, x.sweep(0, level, 0, 1, 0), 1, 0);
        CHECK.left(x, "30 its level of " + loop, x.sweep(0, level, 0, 1, 2), level, 0);
    }

    private static void noCycle(String loop, int level) {
        LevelBits x = Check.of("loop a by " + loop);
        for (int what = 0; what < 6; what++) {
            CHECK.left(x, "28 none of " + loop, x.cycle(0, level, what), NOTHING, 5);
        }
        CHECK.left(x, "30 none of " + loop, x.sweep(0, level, 0, 1, 0), 0, 0);
        CHECK.left(x, "30 no level of " + loop, x.sweep(0, level, 0, 1, 2), NOTHING, 0);
    }

    /** Found by walking far beyond 6,000 clocks with all SUMS remembered. */
    private static void aheadAtMost3000() {
        aheadAndLong("24 27 25 bound 8825", 385, 3000, 3000);
        aheadAndLong("8 1 2 bound 1934 three", -834, 3000, 3000);
        aheadAndLong("16 9 bound 2151 three", -83, 3000, 3000);
        aheadAndLong("3 4 bound 7513", 318, 3000, 2250);
        aheadAndLong("9 14 bound 8747", -679, 3000, 250);
        aheadAndLong("16 24 bound 7231", 797, 2989, 2000);
        // 3,001 ahead; long 3,000, 500, 1,250, 2,250
        noCycle("4 2 8 bound 1209 three", 899);
        noCycle("32 23 bound 8948 three", -476);
        noCycle("5 21 17 bound 4475", 72);
        noCycle("4 20 bound 9245 three", 4);
        noCycle("24 7 bound 8602 three", 975);
    }

    private static void longAtMost3000() {
        aheadAndLong("24 bound 9999", 1, 0, 3000);
        aheadAndLong("18 7 bound 1331", 712, 7, 2999);
        aheadAndLong("24 29 bound 3506 three", 665, 6, 3000);
        aheadAndLong("12 25 16 bound 8235", -1, 2998, 3000);
        // 3,001 long; ahead 0, 1, 34, 2,263, 2,820; 3,125 long
        noCycle("17 9 bound 8502 three", -164);
        noCycle("31 27 9 bound 1307", 285);
        noCycle("28 11 bound 1272 three", 81);
        noCycle("5 13 31 bound 4269 three", -866);
        noCycle("19 1 18 bound 5561 three", -968);
        noCycle("25 bound 9999", 1);
    }

    private static void changesGoRound() {
        LevelBits x = Check.of("loop a by 16 bound 9999 three;loop b by 16 bound 9999");
        // 0 250 500 -250: outs 0 0 1 0
        cycle("28 round", x, 0, 250, 0, 4, 1, 0, 500, 2);
        // 0 -500 1000 500: outs 1 -1 1 1: the first one's is the last one, like it
        cycle("28 round at 500", x, 1, 500, 0, 4, 2, 0, 1000, 2);
        // outs 1 -1
        cycle("28 round at 0", x, 1, 0, 0, 2, 0, 0, 1000, 2);
    }

    // ---- fed

    private static void fedEdges() {
        LevelBits x = Check.of(TEXT);
        CHECK.left(x, "29 as clock 0 begins", x.fed(0, 0, -1000, 0), 0, 0);
        CHECK.left(x, "29 as clock 1 begins", x.fed(0, 0, -1000, 1), -2000, 0);
        CHECK.left(x, "29 as clock 3,000 begins", x.fed(0, 0, -1000, 3000), -2000, 0);
        CHECK.left(x, "29 level 1,000", x.fed(0, 0, 1000, 3000), 0, 0);
        // by -999 and 1,001: 2,000 clocks are a cycle; from 0 on 2 more behind each two clocks up to 1,000
        CHECK.left(x, "29 behind a cycle", x.fed(0, 0, 1, 2000), 0, 0);
        CHECK.left(x, "29 2,999", x.fed(0, 0, 1, 2999), x.fed(0, 0, 1, 999), 0);
        CHECK.left(x, "29 3,000", x.fed(0, 0, 1, 3000), 1000, 0);
        // three stages: 1000, 1000, 1000; then out 1: 1000 + 0, 1000 + 0, 1000 + 0
        for (int stage = 0; stage < 3; stage++) {
            CHECK.left(x, "29 stage " + stage, x.fed(2, stage, 1000, 1), 1000, 0);
        }
        CHECK.left(x, "29 without NOISE", x.fed(1, 0, 1000, 3000), 0, 0);
        // 250, 250, 250; 500, 750, 1000; out 1: -250, -500, -500
        int[][] sums = {{0, 0, 0}, {250, 250, 250}, {500, 750, 1000}, {-250, -500, -500}};
        for (int k = 0; k < 4; k++) {
            for (int stage = 0; stage < 3; stage++) {
                CHECK.left(x, "29 stage " + stage + " at " + k, x.fed(2, stage, 250, k), sums[k][stage], 0);
            }
        }
    }

    private static void fedRefused() {
        LevelBits x = Check.of(TEXT);
        int[] ks = {-1, 3001, MOST, LEAST};
        for (int k : ks) {
            CHECK.left(x, "29 k " + k, x.fed(0, 0, 0, k), NOTHING, 2);
        }
        int[] levels = {-1001, 1001, MOST, LEAST};
        for (int level : levels) {
            CHECK.left(x, "29 level " + level, x.fed(0, 0, level, 0), NOTHING, 2);
        }
        CHECK.left(x, "29 level -1,000", x.fed(0, 0, -1000, 0), 0, 0);
        CHECK.left(x, "29 level 1,000", x.fed(0, 0, 1000, 0), 0, 0);
        int[] stages = {-1, 1, 3, MOST, LEAST};
        for (int stage : stages) {
            CHECK.left(x, "29 stage " + stage, x.fed(0, stage, 0, 0), NOTHING, 1);
            CHECK.left(x, "29 stage is told first", x.fed(0, stage, 1001, -1), NOTHING, 1);
        }
        CHECK.left(x, "29 stage 3 of three", x.fed(2, 3, 0, 0), NOTHING, 1);
        int[] loops = {-1, 4, MOST, LEAST};
        for (int l : loops) {
            CHECK.left(x, "29 loop " + l, x.fed(l, 0, 0, 0), NOTHING, 1);
            CHECK.left(x, "29 loop is told first", x.fed(l, 0, 1001, -1), NOTHING, 1);
        }
    }

    // ---- sweep

    private static void sweepEdges() {
        LevelBits x = Check.of(TEXT);
        CHECK.left(x, "30 one", x.sweep(0, 0, 0, 1, 0), 1, 0);
        CHECK.left(x, "30 fifty", x.sweep(0, 0, 0, 50, 0), 50, 0);
        CHECK.left(x, "30 fifty levels", x.sweep(0, -1000, 40, 50, 0), 50, 0);
        CHECK.left(x, "30 many 0", x.sweep(0, 0, 0, 0, 0), NOTHING, 2);
        CHECK.left(x, "30 many 51", x.sweep(0, 0, 0, 51, 0), NOTHING, 2);
        CHECK.left(x, "30 many -1", x.sweep(0, 0, 0, -1, 0), NOTHING, 2);
        CHECK.left(x, "30 many most", x.sweep(0, 0, 0, MOST, 0), NOTHING, 2);
        CHECK.left(x, "30 many least", x.sweep(0, 0, 0, LEAST, 0), NOTHING, 2);
    }

    private static void sweepAllWithin() {
        LevelBits x = Check.of(TEXT);
        int[][] taken = {{-1000, 2000, 2}, {1000, -2000, 2}, {1000, 0, 3}, {-1000, 0, 3}, {-980, 40, 50}, {980, -40, 50},
            {1000, MOST, 1}, {-1000, LEAST, 1}, {0, 1000, 2}, {0, -1000, 2}};
        for (int[] n : taken) {
            CHECK.left(x, "30 from " + n[0] + " by " + n[1], x.sweep(0, n[0], n[1], n[2], 0), n[2], 0);
        }
        int[][] wrong = {{-1000, 2001, 2}, {1000, -2001, 2}, {1001, 0, 1}, {-1001, 0, 1}, {1001, -1, 2}, {-1001, 1, 2},
            {-979, 40, 51}, {-959, 40, 50}, {959, -40, 50}, {0, 1001, 2}, {0, -1001, 2}, {0, MOST, 2}, {0, LEAST, 2},
            {MOST, 0, 1}, {LEAST, 0, 1}, {MOST, 1, 2}, {LEAST, -1, 2}, {MOST, LEAST, 2}, {-1, LEAST, 3}, {0, 1 << 30, 5},
            {0, 1 << 31, 3}, {0, 1 << 28, 17}, {5, -(1 << 28), 49}};
        for (int[] n : wrong) {
            CHECK.left(x, "30 from " + n[0] + " by " + n[1] + " " + n[2], x.sweep(0, n[0], n[1], n[2], 0), NOTHING, 2);
        }
    }

    private static void sweepRefused() {
        LevelBits x = Check.of(TEXT);
        int[] whats = {-1, 3, MOST, LEAST};
        for (int what : whats) {
            CHECK.left(x, "30 what " + what, x.sweep(0, 0, 0, 1, what), NOTHING, 1);
            CHECK.left(x, "30 what is told first", x.sweep(0, 1001, 0, 0, what), NOTHING, 1);
        }
        int[] loops = {-1, 4, MOST, LEAST};
        for (int l : loops) {
            CHECK.left(x, "30 loop " + l, x.sweep(l, 0, 0, 1, 0), NOTHING, 1);
            CHECK.left(x, "30 loop is told first", x.sweep(l, 1001, 0, 0, 0), NOTHING, 1);
        }
        LevelBits y = new LevelBits();
        CHECK.left(y, "30 no TEXT", y.sweep(0, 0, 0, 1, 0), NOTHING, 1);
    }

    private static void sweepTheFirstOfLikeOnes() {
        LevelBits x = Check.of(TEXT);
        CHECK.left(x, "30 250 and 750", x.sweep(0, 0, 250, 5, 2), 250, 0);
        CHECK.left(x, "30 750 and 250", x.sweep(0, 1000, -250, 5, 2), 750, 0);
        CHECK.left(x, "30 of one clock each", x.sweep(0, -1000, 2000, 2, 2), -1000, 0);
        CHECK.left(x, "30 of one clock each, downwards", x.sweep(0, 1000, -2000, 2, 2), 1000, 0);
        CHECK.left(x, "30 the last one", x.sweep(0, 0, 250, 2, 2), 250, 0);
        CHECK.left(x, "30 the first one", x.sweep(0, 250, 250, 2, 2), 250, 0);
        // 250, which comes next, would be longer
        CHECK.left(x, "30 none behind the last", x.sweep(0, 500, -250, 1, 2), 500, 0);
        CHECK.left(x, "30 none behind the last of two", x.sweep(0, 1000, -500, 2, 2), 500, 0);
    }

    private static void sweepWithoutACycle() {
        LevelBits x = Check.of(TEXT);
        CHECK.left(x, "30 none", x.sweep(3, 1, 0, 3, 0), 0, 0);
        CHECK.left(x, "30 none unclipped", x.sweep(3, 1, 0, 3, 1), 0, 0);
        CHECK.left(x, "30 there is none", x.sweep(3, 1, 0, 3, 2), NOTHING, 0);
        CHECK.left(x, "30 one of two", x.sweep(3, 1, 999, 2, 0), 1, 0);
        CHECK.left(x, "30 one of two, unclipped", x.sweep(3, 1, 999, 2, 1), 1, 0);
        CHECK.left(x, "30 its level", x.sweep(3, 1, 999, 2, 2), 1000, 0);
        CHECK.left(x, "30 its level, the first", x.sweep(3, 1000, -999, 2, 2), 1000, 0);
    }

    private static void sweepWithoutClips() {
        LevelBits x = Check.of(TEXT);
        // clips ahead of the cycle alone at -1,000; none at 1,000; in it at 250
        CHECK.left(x, "30 ahead of it", x.sweep(1, -1000, 2000, 2, 1), 2, 0);
        CHECK.left(x, "30 in it", x.sweep(1, 250, 0, 2, 1), 0, 0);
        CHECK.left(x, "30 in it, by 0", x.sweep(1, 250, 0, 2, 0), 2, 0);
        CHECK.left(x, "30 one of two", x.sweep(1, 250, 750, 2, 1), 1, 0);
    }

    // ---- steady, apart

    private static void steadyEdges() {
        LevelBits x = Check.of("loop a by 16 bound 9999 noise 999;loop b by 32 bound 1000 three;loop c by 32 bound 1999;"
            + "loop d by 32 bound 2000");
        CHECK.left(x, "31 1,000", x.steady(0), 1000, 0);
        // at 0 it stands; at 50 by 100 a clock to 500, then 1,900 less
        CHECK.left(x, "31 0", x.steady(1), 0, 0);
        // at 0 -2,000 at once
        CHECK.left(x, "31 a CLIP at 0", x.steady(2), -2, 0);
        CHECK.left(x, "31 at 0 at the BOUND", x.steady(3), 100, 0);
        int[] loops = {-1, 4, MOST, LEAST};
        for (int l : loops) {
            CHECK.left(x, "31 loop " + l, x.steady(l), NONE, 1);
        }
        // one stage by 16 goes by v less 1,000 and v and 1,000, up to that less what the two have in common:
        // 1,600 at 800, 1,800 at 850 and 900, 1,900 at 950; at 1,000 it stands
        LevelBits y = Check.of("loop a by 16 bound 1799;loop b by 16 bound 1800;loop c by 16 bound 1899;loop d by 16 bound 1900");
        int[] due = {800, 900, 900, 1000};
        for (int l = 0; l < 4; l++) {
            CHECK.left(y, "31 loop " + l, y.steady(l), due[l], 0);
        }
        LevelBits z = new LevelBits();
        CHECK.left(z, "31 no TEXT", z.steady(0), NONE, 1);
    }

    private static void steadyIn1000Clocks() {
        // at 650 the first clip is in the 1,000th clock; at 650 in the 1,001st, and at 700 sooner
        LevelBits x = Check.of("loop a by 24 18 bound 5091 three;loop b by 17 31 bound 9061");
        CHECK.left(x, "31 in the 1,000th", x.steady(0), 600, 0);
        CHECK.left(x, "31 in the 1,001st", x.steady(1), 650, 0);
    }

    private static void apartEdges() {
        LevelBits x = Check.of("loop a by 16 bound 9999;loop b by 16 bound 9999 three;loop c by 32 bound 1000;loop d by 16 bound 9999;"
            + "wave e hold 0 for 1;wave f hold -1000 for 1;wave g hold 0 for 1;wave h hold 1000 for 1");
        // at 0 loop b is 0 always, loop a never; at -1,000 they are unlike at clock 0 alone
        CHECK.left(x, "32 n 1", x.apart(0, 1, 0, 1), 1, 0);
        CHECK.left(x, "32 n 499", x.apart(0, 1, 0, 499), 499, 0);
        CHECK.left(x, "32 n 500", x.apart(0, 1, 0, 500), 500, 0);
        CHECK.left(x, "32 the other way round", x.apart(1, 0, 0, 500), 500, 0);
        CHECK.left(x, "32 by the second wave", x.apart(0, 1, 1, 500), 1, 0);
        CHECK.left(x, "32 with itself", x.apart(1, 1, 0, 500), 0, 0);
        CHECK.left(x, "32 with one alike", x.apart(0, 3, 2, 500), 0, 0);
        // at 1,000 loop b is 0, then 1
        CHECK.left(x, "32 by the last wave", x.apart(3, 1, 3, 500), 1, 0);
    }

    private static void apartRefused() {
        LevelBits x = Check.of(TEXT);
        int[] ns = {0, -1, 501, MOST, LEAST};
        for (int n : ns) {
            CHECK.left(x, "32 n " + n, x.apart(0, 1, 0, n), NONE, 2);
        }
        int[] none = {-1, 4, MOST, LEAST};
        for (int i : none) {
            CHECK.left(x, "32 loop l " + i, x.apart(i, 0, 0, 1), NONE, 1);
            CHECK.left(x, "32 loop k " + i, x.apart(0, i, 0, 1), NONE, 1);
            CHECK.left(x, "32 wave " + i, x.apart(0, 0, i, 1), NONE, 1);
            CHECK.left(x, "32 loop l is told first", x.apart(i, 0, 0, 0), NONE, 1);
            CHECK.left(x, "32 loop k is told first", x.apart(0, i, 0, 0), NONE, 1);
            CHECK.left(x, "32 wave is told first", x.apart(0, 0, i, 501), NONE, 1);
        }
        CHECK.left(x, "32 wave 2", x.apart(0, 0, 2, 1), NONE, 1);
        LevelBits y = new LevelBits();
        CHECK.left(y, "32 no TEXT", y.apart(0, 0, 0, 1), NONE, 1);
    }

    private static void apartAsRunsWouldBe() {
        LevelBits x = Check.of("loop a by 16 bound 9999 noise 5;loop b by 16 bound 9999;loop c by 16 bound 9999 noise 7;wave w hold 0 for 1");
        CHECK.left(x, "32 REGISTER 1", x.apart(0, 1, 0, 1), 1, 0);
        CHECK.left(x, "32 both with the same REGISTER", x.apart(0, 2, 0, 1), 0, 0);
        x.begin(0, 0);
        x.run(9);
        CHECK.left(x, "32 not the run's REGISTER", x.apart(0, 1, 0, 1), 1, 0);
        x.seed(2);
        CHECK.left(x, "32 the one that seed() told", x.apart(0, 1, 0, 1), 0, 0);
        CHECK.left(x, "32 the run is as it was", x.now(2), 9, 0);
        CHECK.left(x, "32 each of them anew", x.apart(0, 1, 0, 1), 0, 0);
        int unlike = 0;
        int[] outs = new int[500];
        x.begin(0, 0);
        for (int t = 0; t < 200; t++) {
            outs[t] = x.run(1);
        }
        x.begin(1, 0);
        for (int t = 0; t < 200; t++) {
            unlike += x.run(1) != outs[t] ? 1 : 0;
        }
        CHECK.left(x, "32 as runs", x.apart(0, 1, 0, 200), unlike, 0);
    }

    // ---- images

    private static LevelBits running() {
        LevelBits x = Check.of(TEXT.replace(" three;", " three noise 77;") + ";wave u swing 900 every 11 for 50");
        x.seed(4711);
        x.begin(2, 2);
        x.run(37);
        return x;
    }

    private static void keepEdges() {
        LevelBits x = running();
        CHECK.left(x, "33 0", x.keep(0), true, 0);
        CHECK.left(x, "33 1", x.keep(1), true, 0);
        int[] wrong = {-1, 2, MOST, LEAST};
        for (int k : wrong) {
            CHECK.left(x, "33 k " + k, x.keep(k), false, 1);
            CHECK.left(x, "34 k " + k, x.back(k), false, 1);
        }
        LevelBits y = new LevelBits();
        CHECK.left(y, "33 no TEXT", y.keep(0), false, 1);
        CHECK.left(y, "34 no TEXT", y.back(0), false, 1);
        Check.text(y, "loop");
        CHECK.left(y, "33 no TEXT by a fault", y.keep(1), false, 1);
        Check.text(y, TEXT);
        CHECK.left(y, "34 none was kept without a TEXT", y.back(0), false, 1);
    }

    private static void keepWithoutARun() {
        LevelBits x = Check.of(TEXT);
        x.seed(9);
        CHECK.left(x, "33 no RUN, too", x.keep(1), true, 0);
        x.seed(5);
        x.begin(0, 0);
        x.run(5);
        CHECK.left(x, "34 back to none", x.back(1), true, 0);
        CHECK.left(x, "34 no RUN", x.now(2), NONE, 1);
        CHECK.left(x, "34 no clock of it", x.run(1), NOTHING, 1);
        CHECK.left(x, "34 no OUT", x.out(0), NOTHING, 1);
        CHECK.left(x, "34 no SUM", x.sum(0), NOTHING, 1);
        CHECK.left(x, "34 no size", x.size(0), NONE, 1);
        x.begin(0, 0);
        CHECK.left(x, "34 its REGISTER", x.now(3), 9, 0);
    }

    private static void backEdges() {
        LevelBits x = running();
        CHECK.left(x, "34 it wasn't kept", x.back(0), false, 1);
        CHECK.left(x, "34 nor was the other", x.back(1), false, 1);
        String before = Picture.ofRun(x);
        x.keep(0);
        CHECK.left(x, "34 the other still wasn't", x.back(1), false, 1);
        x.run(100);
        CHECK.left(x, "34 back", x.back(0), true, 0);
        CHECK.same("34 behind more clocks", Picture.ofRun(x), before);
        x.begin(0, 1);
        x.run(500);
        x.back(0);
        CHECK.same("34 behind another run", Picture.ofRun(x), before);
        int goesOn = x.run(200);
        LevelBits y = running();
        CHECK.due("34 goes on as it would have", y.run(200), goesOn);
        CHECK.same("34 to the same", Picture.ofRun(x), Picture.ofRun(y));
    }

    private static void backToNoClocksAndToAll() {
        LevelBits x = running();
        x.begin(2, 2);
        String none = Picture.ofRun(x);
        x.keep(0);
        for (int i = 0; i < 8; i++) {
            x.run(500);
        }
        x.run(96);
        String all = Picture.ofRun(x);
        x.keep(1);
        x.back(0);
        CHECK.same("34 no clocks", Picture.ofRun(x), none);
        CHECK.left(x, "34 at hand", x.now(2), 0, 0);
        x.back(1);
        CHECK.same("34 all clocks", Picture.ofRun(x), all);
        CHECK.left(x, "34 full", x.run(1), NOTHING, 3);
    }

    private static void imagesStay() {
        LevelBits x = running();
        x.keep(0);
        String before = Picture.ofRun(x);
        for (int i = 0; i < 3; i++) {
            x.run(10 + i);
            x.seed(1 + i);
            CHECK.left(x, "34 back again", x.back(0), true, 0);
            CHECK.same("34 again", Picture.ofRun(x), before);
        }
    }

    private static void imagesAreTwo() {
        LevelBits x = running();
        String first = Picture.ofRun(x);
        x.keep(0);
        x.seed(8);
        x.run(11);
        String second = Picture.ofRun(x);
        x.keep(1);
        x.begin(0, 0);
        x.back(0);
        CHECK.same("34 IMAGE 0", Picture.ofRun(x), first);
        x.back(1);
        CHECK.same("34 IMAGE 1", Picture.ofRun(x), second);
        x.back(0);
        CHECK.same("34 IMAGE 0 again", Picture.ofRun(x), first);
        x.begin(0, 0);
        CHECK.left(x, "34 REGISTER of IMAGE 0", x.now(3), 4711, 0);
        x.back(1);
        x.begin(0, 0);
        CHECK.left(x, "34 REGISTER of IMAGE 1", x.now(3), 8, 0);
    }

    private static void keptAnew() {
        LevelBits x = running();
        x.keep(0);
        x.run(5);
        String later = Picture.ofRun(x);
        CHECK.left(x, "33 anew", x.keep(0), true, 0);
        x.run(5);
        x.back(0);
        CHECK.same("33 the later one", Picture.ofRun(x), later);
    }

    private static void theRegisterThatSeedTold() {
        LevelBits x = running();
        x.seed(6);
        x.keep(0);
        x.seed(7);
        int own = x.now(3);
        x.back(0);
        CHECK.left(x, "34 the run's own REGISTER", x.now(3), own, 0);
        x.begin(0, 0);
        CHECK.left(x, "34 as told when it was kept", x.now(3), 6, 0);
        CHECK.left(x, "32 of apart(), too", x.apart(2, 2, 0, 5), 0, 0);
    }

    private static void backLeavesTheRest() {
        LevelBits x = running();
        x.keep(0);
        CHECK.faulty(x, "loop a by 0", 2, 10);
        Check.feed(x, "wave");
        CHECK.left(x, "34 back", x.back(0), true, 0);
        CHECK.due("34 the tape stays", x.bytes(), 20);
        CHECK.due("34 the fault stays", x.fault(), 2);
        CHECK.left(x, "34 the TEXT stays", x.about(0), 4, 0);
        CHECK.left(x, "33 keep", x.keep(1), true, 0);
        CHECK.due("33 the tape stays", x.bytes(), 20);
        CHECK.due("33 the fault stays", x.fault(), 2);
    }

    private static void textsAndImages() {
        LevelBits x = running();
        x.keep(0);
        x.keep(1);
        String before = Picture.ofRun(x);
        x.text(1);
        CHECK.faulty(x, "loop a by 1 bound 1000;loop", 1, 27);
        CHECK.left(x, "III a refused TEXT leaves IMAGE 0", x.back(0), true, 0);
        CHECK.same("III and its run", Picture.ofRun(x), before);
        CHECK.left(x, "III a refused TEXT leaves IMAGE 1", x.back(1), true, 0);
        Check.text(x, TEXT);
        CHECK.left(x, "III a TEXT leaves no IMAGE 0", x.back(0), false, 1);
        CHECK.left(x, "III a TEXT leaves no IMAGE 1", x.back(1), false, 1);
        CHECK.left(x, "III no RUN comes by that", x.now(2), NONE, 1);
    }
}
