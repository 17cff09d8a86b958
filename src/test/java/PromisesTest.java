/** Promise by promise, with answers reckoned by hand from the document. */
public final class PromisesTest {
    private static final int NONE = Check.NONE;
    private static final int NOTHING = Check.NOTHING;
    private static final Check CHECK = new Check();

    /** At 250 loop one's sum goes 0 -750 500 -250 1000 250 -500 750 0; outs 1 -1 1 -1 1 1 -1 1. */
    private static final String PLAIN = "loop one by 16 bound 9000;"
        + "loop two by 8 16 bound 2000 three noise 40;"
        + "loop thr by 1 32 3 bound 1000;"
        + "wave w hold 250 for 8, ramp 0 to 100 for 4, swing 1000 every 8 for 16;"
        + "wave low hold -1000 for 1";

    public static void main(String[] args) {
        newObject();
        feed();
        text();
        textKeepsAndDrops();
        faultAndWhere();
        faultsOfForm();
        faultsOfBounds();
        faultsOfNames();
        faultsOfMany();
        about();
        loop();
        wave();
        level();
        seed();
        begin();
        run();
        noise();
        threeValues();
        stagesAndClips();
        now();
        sumAndSize();
        out();
        often();
        astray();
        rows();
        like();
        tone();
        nth();
        mean();
        octet();
        summed();
        worst();
        cycle();
        cycleLimits();
        fed();
        sweep();
        steady();
        apart();
        images();
        letter();
        bytes();
        trouble();
        CHECK.end("promises");
    }

    private static LevelBits plain() {
        return Check.of(PLAIN);
    }

    /** The first eight clocks of loop one by wave w. */
    private static LevelBits eight() {
        LevelBits x = plain();
        x.begin(0, 0);
        x.run(8);
        return x;
    }

    private static void newObject() {
        LevelBits x = new LevelBits();
        CHECK.due("1 trouble", x.trouble(), 0);
        CHECK.due("1 where", x.where(), NONE);
        CHECK.due("1 fault", x.fault(), 0);
        CHECK.due("1 bytes", x.bytes(), 0);
        CHECK.left(x, "1 about", x.about(0), NONE, 1);
        CHECK.left(x, "1 now", x.now(2), NONE, 1);
        CHECK.left(x, "1 keep", x.keep(0), false, 1);
        CHECK.left(x, "1 back", x.back(0), false, 1);
        CHECK.due("1 letter", Check.letter(x, 0, 0, 0), Check.THROWN);
        CHECK.due("1 NONE", LevelBits.NONE, -1);
        CHECK.due("1 NOTHING", LevelBits.NOTHING, -1000000000);
    }

    private static void feed() {
        LevelBits x = new LevelBits();
        x.seed(0);
        for (int i = 1; i <= 30; i++) {
            CHECK.due("2 feed " + i, x.feed(0, -1, 0, 0, 0), 20 * i);
        }
        CHECK.due("2 feed beyond", x.feed(1, 2, 3, 4, 5), NONE);
        CHECK.due("2 bytes", x.bytes(), 600);
        CHECK.due("2 trouble stays", x.trouble(), 2);
        LevelBits y = new LevelBits();
        // "wave" " a h" "old " "7 fo" "r 3;", the highest byte first
        CHECK.due("2 twenty", y.feed(0x77617665, 0x20612068, 0x6f6c6420, 0x3720666f, 0x7220333b), 20);
        CHECK.due("2 text", y.text(19), 0);
        CHECK.due("2 level", y.level(0, 0), 7);
        CHECK.due("2 clocks", y.wave(0, 1), 3);
        CHECK.due("2 a text that ends with feed 600", fullTape().text(600), 0);
    }

    private static LevelBits fullTape() {
        LevelBits x = new LevelBits();
        StringBuilder s = new StringBuilder("wave a hold 7 for 3");
        while (s.length() < 600) {
            s.append(' ');
        }
        Check.feed(x, s.toString());
        return x;
    }

    private static void text() {
        LevelBits x = new LevelBits();
        Check.feed(x, PLAIN);
        int taped = x.bytes();
        CHECK.left(x, "3 text(-1)", x.text(-1), NONE, 2);
        CHECK.left(x, "3 text too long", x.text(taped + 1), NONE, 2);
        CHECK.due("3 tape stays by 2", x.bytes(), taped);
        CHECK.left(x, "3 text", x.text(PLAIN.length()), 3, 0);
        CHECK.due("3 tape is empty", x.bytes(), 0);
        CHECK.due("3 tape is empty for text", x.text(1), NONE);
        CHECK.due("3 blanks part alone", Check.text(x, "  loop a by1 2bound1000three noise 1;loop b by 1 bound 1000  "), 2);
        CHECK.due("3 stages", x.loop(0, 0), 2);
        CHECK.due("3 wave without blanks", Check.text(x, "wave a hold-5for1,ramp - 1 to-0002for002"), 0);
        CHECK.due("3 hold -5", x.level(0, 0), -5);
        CHECK.due("3 ramp", x.level(0, 1), -1);
        CHECK.due("3 ramp downwards", x.level(0, 2), -2);
        CHECK.due("3 names like words", Check.text(x, "loop loops by 1 bound 1000; wave waves hold 0 for 1; loop fo by 1 bound 1000"), 2);
        CHECK.due("3 cut", Check.text(x, "loop a by 1 bound 1000"), 1);
        Check.feed(x, "loop a by 1 bound 1000");
        CHECK.due("3 only the first n", x.text(20), NONE);
        CHECK.due("3 only the first n: fault", x.fault(), 2);
        CHECK.due("3 only the first n: where", x.where(), 18);
    }

    private static void textKeepsAndDrops() {
        LevelBits x = plain();
        x.seed(77);
        x.begin(0, 0);
        x.run(8);
        x.keep(1);
        CHECK.due("3 a fault keeps", Check.text(x, "loop"), NONE);
        CHECK.due("3 trouble", x.trouble(), 4);
        CHECK.due("3 tape is empty by 4", x.bytes(), 0);
        CHECK.due("3 old text", x.about(0), 3);
        CHECK.due("3 old bound", x.loop(1, 4), 2000);
        CHECK.due("3 old run", x.now(2), 8);
        CHECK.due("3 old run goes on", x.run(1), 1);
        CHECK.due("3 a fault behind much keeps",
            Check.text(x, "loop p by 5 6 bound 1234;loop q by 7 bound 2345 noise 9;wave r hold 9 for 9,"), NONE);
        CHECK.due("3 old factor", x.loop(0, 1), 16);
        CHECK.due("3 old level", x.level(0, 0), 250);
        CHECK.due("3 old image", x.back(1), true);
        CHECK.due("3 old image's run", x.now(2), 8);
        CHECK.due("3 new", Check.text(x, PLAIN), 3);
        CHECK.due("3 run is gone", x.now(2), NONE);
        CHECK.due("3 out is gone", x.out(0), NOTHING);
        CHECK.due("3 sum is gone", x.sum(0), NOTHING);
        CHECK.due("3 image is gone", x.back(1), false);
        x.begin(0, 0);
        CHECK.due("3 seed stays", x.now(3), 77);
        CHECK.due("3 shorter", Check.text(x, "loop a by 3 bound 1000"), 1);
        CHECK.due("3 no waves", x.about(1), 0);
        CHECK.due("3 second factor is gone", x.loop(0, 2), 0);
        CHECK.due("3 second loop is gone", x.loop(1, 0), NONE);
    }

    private static void faultAndWhere() {
        LevelBits x = new LevelBits();
        CHECK.due("4 n 2", x.text(1), NONE);
        CHECK.due("4 not by 2", x.fault(), 0);
        fault(x, "wave a hold 1 for 0", 2, 18);
        x.text(5);
        CHECK.due("4 stays by 2", x.fault(), 2);
        CHECK.due("5 none by 2", x.where(), NONE);
        fault(x, "wave a hold 1 for", 1, 17);
        Check.feed(x, "x");
        x.bytes();
        x.trouble();
        x.fault();
        Check.letter(x, 0, 0, 0);
        CHECK.due("5 stays by calls never refused", x.where(), 17);
        CHECK.due("37 stays by calls never refused", x.trouble(), 4);
        x.seed(1);
        CHECK.due("5 none behind a call not refused", x.where(), NONE);
        CHECK.due("4 stays behind it", x.fault(), 1);
        fault(x, "wave a hold 1 for", 1, 17);
        x.seed(0);
        CHECK.due("5 none behind a call refused by 2", x.where(), NONE);
        x.text(0);
        CHECK.due("4 empty", x.fault(), 1);
        CHECK.due("5 empty", x.where(), 0);
        Check.text(x, "wave a hold 1 for 1");
        CHECK.due("4 none", x.fault(), 0);
        CHECK.due("5 none", x.where(), NONE);
    }

    private static void fault(LevelBits x, String s, int number, int at) {
        x.text(0);
        CHECK.faulty(x, s, number, at);
    }

    private static void marked(int number, String s) {
        CHECK.marked(number, s);
    }

    private static void faultsOfForm() {
        marked(1, "    |");
        marked(1, "|hold");
        marked(1, "|;");
        marked(1, "|7");
        marked(1, "|Loop a by 1 bound 1000");
        marked(1, "|looping a by 1 bound 1000");
        marked(1, "|loops a by 1 bound 1000");
        marked(1, "loop a by 1 bound 1000;|");
        marked(1, "loop a by 1 bound 1000;|;");
        marked(1, "loop a by 1 bound 1000 |,");
        marked(1, "loop a by 1 bound 1000 |loop b by 1 bound 1000");
        marked(1, "loop |1 by 1 bound 1000");
        marked(1, "loop a|1 by 1 bound 1000");
        marked(1, "loop |abcdefg by 1 bound 1000");
        marked(1, "loop |a\u00e9 by".replace("a", ""));
        marked(1, "loop a|\u0000 by 1 bound 1000");
        marked(1, "loop a|\tby 1 bound 1000");
        marked(1, "loop a |bound 1000");
        marked(1, "loop a by |bound 1000");
        marked(1, "loop a by |-1 bound 1000");
        marked(1, "loop a by 1|, 2 bound 1000");
        marked(1, "loop a by 1 |three bound 1000");
        marked(1, "loop a by 1 |00001 bound 1000");
        marked(1, "loop a by |12345");
        marked(1, "loop a by 1 2 3 |12345");
        marked(1, "loop a by 1 bound |10000");
        marked(1, "loop a by 1 bound 1000 |2");
        marked(1, "loop a by 1 bound 1000 three |three");
        marked(1, "loop a by 1 bound 1000 noise 5 |three");
        marked(1, "loop a by 1 bound 1000 noise |three");
        marked(1, "loop a by 1 bound 1000 three noise |");
        marked(1, "loop a by 1 bound 1000 three noise 5 |6");
        marked(1, "loop a by 1|  ".replace("|  ", "  |"));
        marked(1, "wave a |for 5");
        marked(1, "wave a |5");
        marked(1, "wave a hold |for 5");
        marked(1, "wave a hold -|for 5");
        marked(1, "wave a hold -|- 5 for 5");
        marked(1, "wave a hold 5 |to 6 for 5");
        marked(1, "wave a hold 5 for |-5");
        marked(1, "wave a ramp 5 |for 5");
        marked(1, "wave a ramp 5 to |for 5");
        marked(1, "wave a ramp 5 |every 5 for 5");
        marked(1, "wave a swing 5 |to 5 for 5");
        marked(1, "wave a swing 5 every |-5 for 5");
        marked(1, "wave a swing 5 every 5|;");
        marked(1, "wave a hold 5 for 5 |hold 6 for 6");
        marked(1, "wave a hold 5 for 5, |");
        marked(1, "wave a hold 5 for 5, |, hold 5 for 5");
        marked(1, "wave a hold 5 for 5, |a");
        marked(1, "wave a hold 5 for 5.".replace(".", "|."));
        String[] reserved = {"loop", "wave", "by", "bound", "three", "noise",
            "hold", "ramp", "swing", "to", "every", "for"};
        for (String word : reserved) {
            marked(1, "loop |" + word + " by 1 bound 1000");
            marked(1, "wave |" + word + " hold 1 for 1");
        }
    }

    private static void faultsOfBounds() {
        marked(2, "loop a by |0 bound 1000");
        marked(2, "loop a by |33 bound 1000");
        marked(2, "loop a by 32 1 |9999 bound 1000");
        marked(2, "loop a by 1 bound |999");
        marked(2, "loop a by 1 bound |0999");
        marked(2, "loop a by 1 bound 1000 noise |0");
        marked(2, "loop a by 1 bound 9999 noise |1000");
        marked(2, "wave a hold |1001 for 5");
        marked(2, "wave a hold -|1001 for 5");
        marked(2, "wave a hold - |1001 for 5");
        marked(2, "wave a ramp 1000 to |1001 for 5");
        marked(2, "wave a ramp -1000 to - |9999 for 5");
        marked(2, "wave a swing |1001 every 5 for 5");
        marked(2, "wave a swing 5 every |1 for 5");
        marked(2, "wave a swing 5 every |100 for 5");
        marked(2, "wave a hold 5 for |0");
        marked(2, "wave a hold 5 for |501");
        marked(2, "wave a hold 5 for |501 $");
        LevelBits x = new LevelBits();
        CHECK.due("edges of loops", Check.text(x, "loop a by 1 32 01 bound 9999 noise 999;loop b by 1 bound 1000 noise 1"), 2);
        CHECK.due("edges of waves", Check.text(x,
            "wave a hold 1000 for 500, ramp -1000 to 1000 for 1, swing -0 every 2 for 1, swing 5 every 99 for 1"), 0);
    }

    private static void faultsOfNames() {
        marked(3, "loop a by 1 bound 1000; loop |a by 1 bound 1000");
        marked(3, "loop a by 1 bound 1000; wave |a");
        marked(3, "wave a hold 1 for 1; loop |a by 1 bound 1000");
        marked(3, "wave a hold 1 for 1; wave b hold 1 for 1; wave |b $");
        marked(3, "wave abcdef hold 1 for 1; wave abcdeg hold 1 for 1; wave |abcdef");
        CHECK.due("names unlike", Check.text(new LevelBits(),
            "loop ab by 1 bound 1000;loop ba by 1 bound 1000;loop a by 1 bound 1000;wave b hold 1 for 1;wave aa hold 1 for 1"), 3);
    }

    private static void faultsOfMany() {
        String loops = "loop a by 1 bound 1000;loop b by 1 bound 1000;loop c by 1 bound 1000;loop d by 1 bound 1000";
        String waves = "wave e hold 1 for 1;wave f hold 1 for 1;wave g hold 1 for 1;wave h hold 1 for 1";
        CHECK.due("four of each", Check.text(new LevelBits(), loops + ";" + waves), 4);
        marked(4, loops + ";|loop $");
        marked(4, loops + ";" + waves + "; |loop");
        marked(4, loops + ";" + waves + "; |wave a");
        marked(4, waves + ";" + loops + "; |wave");
        marked(1, loops + ";" + waves + ";|");
        marked(1, loops + ";|by");
        marked(4, "loop a by 1 2 3 |4");
        marked(4, "loop a by 1 2 3 |4 $");
        marked(2, "loop a by 1 2 3 |33");
        marked(2, "loop a by 1 2 3 |0");
        String eightPieces = "wave a hold 1 for 1,hold 1 for 1,ramp 1 to 1 for 1,hold 1 for 1,"
            + "swing 1 every 2 for 1,hold 1 for 1,hold 1 for 1,hold 1 for 1";
        CHECK.due("eight pieces", Check.text(new LevelBits(), eightPieces), 0);
        marked(4, eightPieces + ",|hold $");
        marked(4, eightPieces + ",|ramp");
        marked(4, eightPieces + ",|swing");
        marked(1, eightPieces + ",|for");
        marked(1, eightPieces + ",|");
    }

    private static void about() {
        LevelBits x = plain();
        CHECK.left(x, "6 loops", x.about(0), 3, 0);
        CHECK.left(x, "6 waves", x.about(1), 2, 0);
        CHECK.left(x, "6 what 2", x.about(2), NONE, 1);
        CHECK.left(x, "6 what -1", x.about(-1), NONE, 1);
        LevelBits y = Check.of("wave a hold 1 for 1");
        CHECK.left(y, "6 no loops", y.about(0), 0, 0);
    }

    private static void loop() {
        LevelBits x = plain();
        int[] one = {1, 16, 0, 0, 9000, 2, 0};
        int[] two = {2, 8, 16, 0, 2000, 3, 40};
        int[] three = {3, 1, 32, 3, 1000, 2, 0};
        for (int what = 0; what <= 6; what++) {
            CHECK.left(x, "7 loop 0 " + what, x.loop(0, what), one[what], 0);
            CHECK.left(x, "7 loop 1 " + what, x.loop(1, what), two[what], 0);
            CHECK.left(x, "7 loop 2 " + what, x.loop(2, what), three[what], 0);
        }
        CHECK.left(x, "7 what 7", x.loop(0, 7), NONE, 1);
        CHECK.left(x, "7 what -1", x.loop(0, -1), NONE, 1);
        CHECK.left(x, "7 loop 3", x.loop(3, 0), NONE, 1);
        CHECK.left(x, "7 loop -1", x.loop(-1, 0), NONE, 1);
        CHECK.left(x, "7 loop far", x.loop(Integer.MAX_VALUE, Integer.MIN_VALUE), NONE, 1);
    }

    private static void wave() {
        LevelBits x = Check.of("wave a ramp -10 to 100 for 4, hold 20 for 3; wave b swing 100 every 3 for 2; wave c hold -7 for 500");
        CHECK.left(x, "8 pieces", x.wave(0, 0), 2, 0);
        CHECK.left(x, "8 clocks", x.wave(0, 1), 7, 0);
        CHECK.left(x, "8 least", x.wave(0, 2), -10, 0);
        // -10 and 110 * 3 by 4, downwards: 72; never 100
        CHECK.left(x, "8 greatest", x.wave(0, 3), 72, 0);
        // e 0: 100; e 1: 100 * (3 - 4) by 3, downwards
        CHECK.left(x, "8 least of a swing", x.wave(1, 2), -34, 0);
        CHECK.left(x, "8 greatest of a swing", x.wave(1, 3), 100, 0);
        CHECK.left(x, "8 least of a hold", x.wave(2, 2), -7, 0);
        CHECK.left(x, "8 greatest of a hold", x.wave(2, 3), -7, 0);
        CHECK.left(x, "8 what 4", x.wave(0, 4), NOTHING, 1);
        CHECK.left(x, "8 what -1", x.wave(0, -1), NOTHING, 1);
        CHECK.left(x, "8 wave 3", x.wave(3, 0), NOTHING, 1);
        CHECK.left(x, "8 wave -1", x.wave(-1, 0), NOTHING, 1);
    }

    private static void level() {
        LevelBits x = Check.of("wave a ramp 0 to -10 for 4, swing 7 every 5 for 6; wave b swing -1000 every 2 for 3;"
            + "wave c hold 1 for 500, hold 2 for 500, hold 3 for 500, hold 4 for 500, hold 5 for 500, hold 6 for 500, hold 7 for 500, hold 8 for 500");
        // swing: e 0 1 2 2 1 0: 7, 7 * 1 by 5, 7 * -3 by 5 downwards
        int[] a = {0, -3, -5, -8, 7, 1, -5, -5, 1, 7};
        for (int t = 0; t < 30; t++) {
            CHECK.left(x, "9 level a " + t, x.level(0, t), a[t % 10], 0);
        }
        int[] b = {-1000, 1000, -1000};
        for (int t = 0; t < 9; t++) {
            CHECK.left(x, "9 level b " + t, x.level(1, t), b[t % 3], 0);
        }
        CHECK.left(x, "9 last piece's first", x.level(2, 3500), 8, 0);
        CHECK.left(x, "9 last piece's last", x.level(2, 3999), 8, 0);
        CHECK.left(x, "9 anew", x.level(2, 4000), 1, 0);
        // 2,147,483,647 modulo 4,000 is 3,647
        CHECK.left(x, "9 far", x.level(2, Integer.MAX_VALUE), 8, 0);
        CHECK.left(x, "9 far a", x.level(0, Integer.MAX_VALUE), -5, 0);
        CHECK.left(x, "9 below 0", x.level(0, -1), NOTHING, 2);
        CHECK.left(x, "9 far below 0", x.level(0, Integer.MIN_VALUE), NOTHING, 2);
        CHECK.left(x, "9 no wave", x.level(3, -1), NOTHING, 1);
        CHECK.left(x, "9 wave -1", x.level(-1, 0), NOTHING, 1);
    }

    private static void seed() {
        LevelBits x = new LevelBits();
        CHECK.left(x, "10 65,535", x.seed(65535), true, 0);
        CHECK.left(x, "10 65,536", x.seed(65536), false, 2);
        CHECK.left(x, "10 0", x.seed(0), false, 2);
        CHECK.left(x, "10 -1", x.seed(-1), false, 2);
        CHECK.left(x, "10 1", x.seed(1), true, 0);
        x.seed(65535);
        Check.text(x, PLAIN);
        x.begin(1, 0);
        CHECK.due("10 told", x.now(3), 65535);
        x.seed(9);
        CHECK.due("10 of runs from now on", x.now(3), 65535);
        x.begin(1, 0);
        CHECK.due("10 begins anew", x.now(3), 9);
    }

    private static void begin() {
        LevelBits x = plain();
        CHECK.left(x, "11 loop 3", x.begin(3, 0), false, 1);
        CHECK.left(x, "11 loop -1", x.begin(-1, 0), false, 1);
        CHECK.left(x, "11 wave 2", x.begin(0, 2), false, 1);
        CHECK.left(x, "11 wave -1", x.begin(0, -1), false, 1);
        CHECK.left(x, "11 no run", x.now(0), NONE, 1);
        CHECK.left(x, "11 begin", x.begin(2, 1), true, 0);
        CHECK.due("11 first register", x.now(3), 1);
        x.run(100);
        CHECK.left(x, "11 refused", x.begin(0, 2), false, 1);
        CHECK.due("11 the run stays", x.now(2), 100);
        CHECK.due("11 its loop", x.now(0), 2);
        CHECK.due("11 clips were", x.now(4) > 0, true);
        CHECK.left(x, "11 another", x.begin(2, 0), true, 0);
        CHECK.due("11 no clocks", x.now(2), 0);
        CHECK.due("11 no clips", x.now(4), 0);
        CHECK.due("11 sums 0", x.sum(0), 0);
        CHECK.due("11 sizes 0", x.size(2), 0);
        CHECK.left(x, "11 no outs", x.out(0), NOTHING, 2);
    }

    private static void run() {
        LevelBits x = plain();
        CHECK.left(x, "12 no run", x.run(0), NOTHING, 1);
        x.begin(0, 0);
        CHECK.left(x, "12 0", x.run(0), NOTHING, 2);
        CHECK.left(x, "12 501", x.run(501), NOTHING, 2);
        CHECK.left(x, "12 -1", x.run(-1), NOTHING, 2);
        CHECK.left(x, "12 most", x.run(Integer.MAX_VALUE), NOTHING, 2);
        int[] outs = {1, -1, 1, -1, 1, 1, -1, 1};
        for (int t = 0; t < 8; t++) {
            CHECK.left(x, "12 clock " + t, x.run(1), outs[t], 0);
        }
        // from 0 at 0, 25, 50, 75: out 1 -1 1 -1; sums -1000 25 -925 150
        CHECK.left(x, "12 goes on", x.run(3), 1, 0);
        CHECK.due("12 sum", x.sum(0), -925);
        x.begin(0, 0);
        for (int i = 0; i < 8; i++) {
            x.run(500);
        }
        CHECK.due("12 4,000", x.now(2), 4000);
        CHECK.left(x, "12 no room", x.run(97), NOTHING, 3);
        CHECK.left(x, "12 a number ahead of room", x.run(501), NOTHING, 2);
        CHECK.due("12 still 4,000", x.now(2), 4000);
        CHECK.due("12 96", x.run(96) != NOTHING, true);
        CHECK.left(x, "12 full", x.run(1), NOTHING, 3);
    }

    /** From register 1: 32,768 16,384 8,192 .. 32 (behind 11), then 32's bit 5 puts 32,768 to 16. */
    private static void noise() {
        LevelBits x = Check.of("loop a by 16 bound 9000 noise 999;loop b by 16 bound 9000; wave w hold 0 for 1");
        x.begin(0, 0);
        CHECK.due("II Z below 0", x.run(1), -1);
        CHECK.due("II register 2", x.now(3), 32768);
        CHECK.due("II sum", x.sum(0), 1000);
        // 1,000 less 999 is 0 or more
        CHECK.due("II Q above 0", x.run(1), 1);
        CHECK.due("II sum back", x.sum(0), 0);
        x.run(9);
        CHECK.due("II register 32", x.now(3), 32);
        x.run(1);
        CHECK.due("II bit 5", x.now(3), 32784);
        // 32,784 16,392 (bit 3) 40,964 (bit 2) 53,250 26,625
        x.run(1);
        CHECK.due("II 16,392", x.now(3), 16392);
        x.run(1);
        CHECK.due("II bit 3", x.now(3), 40964);
        x.run(1);
        CHECK.due("II bit 2", x.now(3), 53250);
        x.run(1);
        CHECK.due("II bit 0 comes", x.now(3), 26625);
        x.seed(2);
        x.begin(0, 0);
        CHECK.due("II Z by the bit behind the step", x.run(1), 1);
        CHECK.due("II register behind it", x.now(3), 1);
        x.seed(3);
        x.begin(1, 0);
        x.run(50);
        CHECK.due("II no step without noise", x.now(3), 3);
    }

    private static void threeValues() {
        LevelBits x = Check.of("loop a by 1 bound 9000 three; wave p hold 1000 for 1; wave n hold -1000 for 1; wave z hold 0 for 1");
        x.begin(0, 0);
        // 62 a clock (1,000 by 16 downwards): 496 at clock 8, 558 at clock 9
        CHECK.due("II three 0", x.run(9), 0);
        CHECK.due("II three sum", x.sum(0), 558);
        CHECK.due("II three 1", x.run(1), 1);
        CHECK.due("II three sum stands", x.sum(0), 558);
        x.begin(0, 1);
        // -63 a clock: -504 at clock 8
        CHECK.due("II three 0 below", x.run(8), 0);
        CHECK.due("II three sum below", x.sum(0), -504);
        CHECK.due("II three -1", x.run(1), -1);
        x.begin(0, 2);
        CHECK.due("II three at 0", x.run(500), 0);
        LevelBits y = Check.of("loop a by 8 bound 9000 three; wave p hold 1000 for 1; wave n hold -1000 for 1");
        y.begin(0, 0);
        y.run(1);
        CHECK.due("II 500", y.sum(0), 500);
        CHECK.due("II 1 at 500", y.run(1), 1);
        y.begin(0, 1);
        y.run(1);
        CHECK.due("II -500", y.sum(0), -500);
        CHECK.due("II -1 at -500", y.run(1), -1);
    }

    private static void stagesAndClips() {
        LevelBits x = Check.of("loop a by 16 16 bound 9000; loop b by 32 32 bound 1000; wave w hold 250 for 1; wave p hold 1000 for 1");
        x.begin(0, 0);
        // out 1: -750, then -750 - 1000 = -1750; out -1: 500, then -1750 + 1500 = -250
        x.run(1);
        CHECK.due("II stage 0", x.sum(0), -750);
        CHECK.due("II stage 1 by the new sum", x.sum(1), -1750);
        x.run(1);
        CHECK.due("II stage 0 then", x.sum(0), 500);
        CHECK.due("II stage 1 then", x.sum(1), -250);
        x.begin(1, 0);
        // out 1: 2 * -750 held at -1000; 2 * -2000 held at -1000: two clips
        x.run(1);
        CHECK.due("II held", x.sum(0), -1000);
        CHECK.due("II held, too", x.sum(1), -1000);
        CHECK.due("II two clips", x.now(4), 2);
        // out -1: -1000 + 2500 held at 1000; -1000 + 4000 held at 1000
        x.run(1);
        CHECK.due("II held above", x.sum(0), 1000);
        CHECK.due("II four clips", x.now(4), 4);
        LevelBits y = Check.of("loop a by 16 bound 1000; loop b by 16 bound 1000; wave w hold 0 for 1, hold 1000 for 1; wave z hold -1 for 1");
        y.begin(0, 0);
        // -1000 is the bound itself: no clip; out -1: -1000 + 2000 = 1000: none
        y.run(2);
        CHECK.due("II at the bound", y.sum(0), 1000);
        CHECK.due("II no clip at the bound", y.now(4), 0);
        y.begin(0, 1);
        y.run(1);
        CHECK.due("II a clip one beyond", y.now(4), 1);
    }

    private static void now() {
        LevelBits x = plain();
        CHECK.left(x, "13 no run", x.now(0), NONE, 1);
        x.begin(2, 1);
        x.run(3);
        CHECK.left(x, "13 loop", x.now(0), 2, 0);
        CHECK.left(x, "13 wave", x.now(1), 1, 0);
        CHECK.left(x, "13 clocks", x.now(2), 3, 0);
        CHECK.left(x, "13 register", x.now(3), 1, 0);
        CHECK.left(x, "13 what 5", x.now(5), NONE, 1);
        CHECK.left(x, "13 what -1", x.now(-1), NONE, 1);
    }

    private static void sumAndSize() {
        LevelBits x = plain();
        CHECK.left(x, "14 no run", x.sum(0), NOTHING, 1);
        CHECK.left(x, "15 no run", x.size(0), NONE, 1);
        x.begin(0, 0);
        CHECK.left(x, "15 ahead of any", x.size(0), 0, 0);
        int[] sums = {-750, 500, -250, 1000, 250, -500, 750, 0};
        int[] sizes = {750, 750, 750, 1000, 1000, 1000, 1000, 1000};
        for (int t = 0; t < 8; t++) {
            x.run(1);
            CHECK.left(x, "14 sum " + t, x.sum(0), sums[t], 0);
            CHECK.left(x, "15 size " + t, x.size(0), sizes[t], 0);
        }
        CHECK.left(x, "14 stage 1", x.sum(1), NOTHING, 1);
        CHECK.left(x, "14 stage -1", x.sum(-1), NOTHING, 1);
        CHECK.left(x, "15 stage 1", x.size(1), NONE, 1);
        CHECK.left(x, "15 stage -1", x.size(-1), NONE, 1);
        x.begin(2, 0);
        x.run(1);
        // by 1: -750 by 16 downwards; by 32: 2 * (-47 - 1000) held; by 3: 3 * -2000 by 16
        CHECK.left(x, "14 of three", x.sum(0), -47, 0);
        CHECK.left(x, "14 of three 1", x.sum(1), -1000, 0);
        CHECK.left(x, "14 of three 2", x.sum(2), -375, 0);
        CHECK.left(x, "15 of three 2", x.size(2), 375, 0);
        CHECK.left(x, "14 stage 3", x.sum(3), NOTHING, 1);
    }

    private static void out() {
        LevelBits x = plain();
        CHECK.left(x, "16 no run", x.out(-1), NOTHING, 1);
        x = eight();
        int[] outs = {1, -1, 1, -1, 1, 1, -1, 1};
        for (int t = 0; t < 8; t++) {
            CHECK.left(x, "16 out " + t, x.out(t), outs[t], 0);
        }
        CHECK.left(x, "16 it wasn't", x.out(8), NOTHING, 2);
        CHECK.left(x, "16 -1", x.out(-1), NOTHING, 2);
    }

    private static void often() {
        LevelBits x = plain();
        CHECK.left(x, "17 no run", x.often(7, 1, 0), NONE, 1);
        x = eight();
        CHECK.left(x, "17 ones", x.often(1, 0, 7), 5, 0);
        CHECK.left(x, "17 below", x.often(-1, 0, 7), 3, 0);
        CHECK.left(x, "17 zeros", x.often(0, 0, 7), 0, 0);
        CHECK.left(x, "17 part", x.often(1, 4, 5), 2, 0);
        CHECK.left(x, "17 one clock", x.often(-1, 6, 6), 1, 0);
        CHECK.left(x, "17 value 2", x.often(2, 0, 7), NONE, 2);
        CHECK.left(x, "17 value -2", x.often(-2, 0, 7), NONE, 2);
        CHECK.left(x, "17 b wasn't", x.often(1, 0, 8), NONE, 2);
        CHECK.left(x, "17 a above b", x.often(1, 5, 4), NONE, 2);
        CHECK.left(x, "17 a below 0", x.often(1, -1, 4), NONE, 2);
    }

    private static void astray() {
        LevelBits x = plain();
        CHECK.left(x, "18 no run", x.astray(1, 0), NOTHING, 1);
        x = eight();
        CHECK.left(x, "18 all", x.astray(0, 7), 0, 0);
        CHECK.left(x, "18 first", x.astray(0, 0), 750, 0);
        CHECK.left(x, "18 second", x.astray(1, 1), -1250, 0);
        CHECK.left(x, "18 part", x.astray(4, 6), 250, 0);
        CHECK.left(x, "18 wrong", x.astray(0, 8), NOTHING, 2);
        CHECK.left(x, "18 wrong way", x.astray(3, 2), NOTHING, 2);
        x.run(2);
        CHECK.left(x, "18 of the levels then", x.astray(8, 9), -25, 0);
    }

    private static void rows() {
        LevelBits x = plain();
        CHECK.left(x, "19 no run", x.rows(0, 0, 0), NONE, 1);
        x = eight();
        CHECK.left(x, "19 row", x.rows(0, 7, 0), 2, 0);
        CHECK.left(x, "19 row of part", x.rows(0, 4, 0), 1, 0);
        CHECK.left(x, "19 row of one", x.rows(5, 5, 0), 1, 0);
        CHECK.left(x, "19 row at the end", x.rows(3, 5, 0), 2, 0);
        CHECK.left(x, "19 changes", x.rows(0, 7, 1), 6, 0);
        CHECK.left(x, "19 changes of part", x.rows(4, 5, 1), 0, 0);
        CHECK.left(x, "19 changes of one", x.rows(1, 1, 1), 0, 0);
        CHECK.left(x, "19 what ahead of the stretch", x.rows(7, 0, 2), NONE, 1);
        CHECK.left(x, "19 what -1", x.rows(0, 7, -1), NONE, 1);
        CHECK.left(x, "19 stretch", x.rows(0, 8, 1), NONE, 2);
        x.begin(0, 1);
        // at -1,000: 1, then -1 for ever (0, -2000, ..): sums stand at -2,000
        x.run(20);
        CHECK.left(x, "19 long", x.rows(0, 19, 0), 19, 0);
        CHECK.left(x, "19 one change", x.rows(0, 19, 1), 1, 0);
    }

    private static void like() {
        LevelBits x = plain();
        CHECK.left(x, "20 no run", x.like(0, 0, 0), NONE, 1);
        x = eight();
        CHECK.left(x, "20 lag 1", x.like(0, 7, 1), 1, 0);
        CHECK.left(x, "20 lag 2", x.like(0, 7, 2), 4, 0);
        CHECK.left(x, "20 lag 7", x.like(0, 7, 7), 1, 0);
        CHECK.left(x, "20 lag 8", x.like(0, 7, 8), 0, 0);
        CHECK.left(x, "20 lag 1,000", x.like(0, 7, 1000), 0, 0);
        CHECK.left(x, "20 part", x.like(1, 6, 5), 1, 0);
        CHECK.left(x, "20 lag 0", x.like(0, 7, 0), NONE, 2);
        CHECK.left(x, "20 lag 1,001", x.like(0, 7, 1001), NONE, 2);
        CHECK.left(x, "20 stretch", x.like(0, 8, 1), NONE, 2);
    }

    private static void tone() {
        LevelBits x = plain();
        CHECK.left(x, "21 no run", x.tone(0, 0, 0), NONE, 1);
        x = eight();
        // parts: 1/7 4/6 3/5 1/4 3/3 0/2 1/1
        CHECK.left(x, "21 most 1", x.tone(0, 7, 1), 1, 0);
        CHECK.left(x, "21 most 4", x.tone(0, 7, 4), 2, 0);
        CHECK.left(x, "21 by parts, not by how many", x.tone(0, 7, 5), 5, 0);
        CHECK.left(x, "21 the least of like ones", x.tone(0, 7, 7), 5, 0);
        CHECK.left(x, "21 lags without a pair", x.tone(0, 7, 200), 5, 0);
        CHECK.left(x, "21 none like", x.tone(0, 1, 200), 1, 0);
        CHECK.left(x, "21 no pair", x.tone(3, 3, 200), -2, 0);
        CHECK.left(x, "21 most 0", x.tone(0, 7, 0), NONE, 2);
        CHECK.left(x, "21 most 201", x.tone(0, 7, 201), NONE, 2);
        CHECK.left(x, "21 stretch", x.tone(7, 6, 5), NONE, 2);
        // clocks 4 .. 7 are 1 1 -1 1: parts 1/3 1/2 1/1
        CHECK.left(x, "21 part of it", x.tone(4, 7, 2), 2, 0);
        CHECK.left(x, "21 part of it, all lags", x.tone(4, 7, 9), 3, 0);
    }

    private static void nth() {
        LevelBits x = plain();
        CHECK.left(x, "22 no run", x.nth(2, -1), NONE, 1);
        x.begin(0, 0);
        CHECK.left(x, "22 no clocks", x.nth(1, 0), -2, 0);
        x = eight();
        int[] ones = {0, 2, 4, 5, 7};
        int[] below = {1, 3, 6};
        for (int i = 0; i < 5; i++) {
            CHECK.left(x, "22 one " + i, x.nth(1, i), ones[i], 0);
        }
        for (int i = 0; i < 3; i++) {
            CHECK.left(x, "22 below " + i, x.nth(-1, i), below[i], 0);
        }
        CHECK.left(x, "22 not so often", x.nth(1, 5), -2, 0);
        CHECK.left(x, "22 far", x.nth(-1, Integer.MAX_VALUE), -2, 0);
        CHECK.left(x, "22 zeros", x.nth(0, 0), -2, 0);
        CHECK.left(x, "22 i -1", x.nth(1, -1), NONE, 2);
        CHECK.left(x, "22 value 2", x.nth(2, 0), NONE, 2);
        CHECK.left(x, "22 value -2", x.nth(-2, 0), NONE, 2);
    }

    private static void mean() {
        LevelBits x = plain();
        CHECK.left(x, "23 no run", x.mean(0, 0, 0), NOTHING, 1);
        x = eight();
        CHECK.left(x, "23 above", x.mean(0, 7, 0), 1, 0);
        CHECK.left(x, "23 below", x.mean(0, 7, 1), 4, 0);
        CHECK.left(x, "23 0", x.mean(0, 3, 0), 0, 0);
        CHECK.left(x, "23 0 by 1", x.mean(0, 3, 1), 1, 0);
        CHECK.left(x, "23 below 0", x.mean(1, 3, 0), -1, 0);
        CHECK.left(x, "23 below 0 by 3", x.mean(1, 3, 1), 3, 0);
        CHECK.left(x, "23 whole", x.mean(4, 5, 0), 1, 0);
        CHECK.left(x, "23 whole by 1", x.mean(4, 5, 1), 1, 0);
        CHECK.left(x, "23 what ahead of the stretch", x.mean(9, 0, 2), NOTHING, 1);
        CHECK.left(x, "23 what -1", x.mean(0, 7, -1), NOTHING, 1);
        CHECK.left(x, "23 stretch", x.mean(0, 8, 0), NOTHING, 2);
    }

    private static void octet() {
        LevelBits x = plain();
        CHECK.left(x, "24 no run", x.octet(-1), NONE, 1);
        x = eight();
        CHECK.left(x, "24 octet 0", x.octet(0), 173, 0);
        CHECK.left(x, "24 octet 1", x.octet(1), NONE, 2);
        CHECK.left(x, "24 octet -1", x.octet(-1), NONE, 2);
        CHECK.left(x, "24 far", x.octet(536870912), NONE, 2);
        x.run(7);
        CHECK.left(x, "24 seven alone", x.octet(1), NONE, 2);
        x.run(1);
        // levels 0 25 50 75 1000 500 0 -500: sums 0 -1000 25 -925 150 150 -350 650: outs 1 -1 1 -1 1 1 -1 1
        CHECK.left(x, "24 octet 1 then", x.octet(1), 173, 0);
        LevelBits y = Check.of("loop a by 16 bound 9000 three; wave w hold -1000 for 1, hold 1000 for 1");
        y.begin(0, 0);
        y.run(8);
        // 0: 0; -1000: -1, 1000: 1 ..: sums 0 -1000 1000 -1000 ..
        CHECK.left(y, "24 of three values", y.octet(0), 0b00101010, 0);
    }

    private static void summed() {
        LevelBits x = plain();
        CHECK.left(x, "25 no run", x.summed(0, 0), NONE, 1);
        CHECK.left(x, "26 no run", x.summedAt(0, 0, 0), NOTHING, 1);
        x.begin(0, 0);
        CHECK.left(x, "25 no clocks", x.summed(1, 2), 0, 0);
        CHECK.left(x, "26 no clocks", x.summedAt(1, 2, 0), NOTHING, 2);
        x.run(8);
        // outs 1 -1 1 -1 1 1 -1 1; by 2: 0 0 2 0
        CHECK.left(x, "25 by 2", x.summed(1, 2), 4, 0);
        int[] first = {0, 0, 2, 0};
        for (int i = 0; i < 4; i++) {
            CHECK.left(x, "26 by 2 " + i, x.summedAt(1, 2, i), first[i], 0);
        }
        // row 1: 0 0 0 0 2 0 0; row 2: 0 0 0 2 2 0; row 3: 0 0 2 4 2
        CHECK.left(x, "25 order 2", x.summed(2, 2), 3, 0);
        int[] second = {0, 0, 2};
        int[] third = {0, 2, 2};
        for (int i = 0; i < 3; i++) {
            CHECK.left(x, "26 order 2 " + i, x.summedAt(2, 2, i), second[i], 0);
            CHECK.left(x, "26 order 3 " + i, x.summedAt(3, 2, i), third[i], 0);
        }
        CHECK.left(x, "25 order 3", x.summed(3, 2), 3, 0);
        CHECK.left(x, "25 by 3", x.summed(1, 3), 2, 0);
        CHECK.left(x, "25 by 3 order 3", x.summed(3, 3), 1, 0);
        // row 1: 1 -1 1 1 1 1; row 2: 1 1 3 3; row 3: 5 7
        CHECK.left(x, "26 by 3 order 3", x.summedAt(3, 3, 0), 5, 0);
        CHECK.left(x, "25 by 4 order 3", x.summed(3, 4), 0, 0);
        CHECK.left(x, "25 by 8", x.summed(1, 8), 1, 0);
        CHECK.left(x, "26 by 8", x.summedAt(1, 8, 0), 2, 0);
        CHECK.left(x, "25 by 9", x.summed(1, 9), 0, 0);
        CHECK.left(x, "26 none such", x.summedAt(1, 2, 4), NOTHING, 2);
        CHECK.left(x, "26 i -1", x.summedAt(1, 2, -1), NOTHING, 2);
        CHECK.left(x, "26 far", x.summedAt(1, 2, Integer.MAX_VALUE), NOTHING, 2);
        wrongSumming(x);
    }

    private static void wrongSumming(LevelBits x) {
        int[][] wrong = {{0, 2}, {4, 2}, {1, 1}, {1, 33}, {-1, 2}, {1, -1}, {1, 0}};
        for (int[] w : wrong) {
            CHECK.left(x, "25 wrong", x.summed(w[0], w[1]), NONE, 2);
            CHECK.left(x, "26 wrong", x.summedAt(w[0], w[1], 0), NOTHING, 2);
            CHECK.left(x, "27 wrong", x.worst(w[0], w[1]), NONE, 2);
        }
        CHECK.left(x, "25 by 32", x.summed(3, 32), 0, 0);
    }

    private static void worst() {
        LevelBits x = plain();
        CHECK.left(x, "27 no run", x.worst(0, 0), NONE, 1);
        x.begin(0, 0);
        CHECK.left(x, "27 none", x.worst(1, 2), NONE, 5);
        x.run(8);
        // 1,000 times 0 0 2 0, less 500 each: -500 -500 1500 -500
        CHECK.left(x, "27 order 1", x.worst(1, 2), 1500, 0);
        // 1,000 times 0 0 2, less 1,000 each
        CHECK.left(x, "27 order 2", x.worst(2, 2), 1000, 0);
        // 1,000 times 0 2 2, less 2,000 each: -2000 0 0
        CHECK.left(x, "27 order 3", x.worst(3, 2), 2000, 0);
        CHECK.left(x, "27 by 8", x.worst(1, 8), 0, 0);
        CHECK.left(x, "27 by 9", x.worst(1, 9), NONE, 5);
        CHECK.left(x, "27 wrong ahead of none", x.worst(4, 32), NONE, 2);
    }

    private static void cycle() {
        LevelBits x = plain();
        int[] at250 = {0, 8, 2, 0, 1000, 6};
        for (int what = 0; what <= 5; what++) {
            CHECK.left(x, "28 at 250 " + what, x.cycle(0, 250, what), at250[what], 0);
        }
        // at -1,000: 0, then -2000 for ever
        int[] low = {1, 1, -1, 0, 2000, 0};
        for (int what = 0; what <= 5; what++) {
            CHECK.left(x, "28 at -1,000 " + what, x.cycle(0, -1000, what), low[what], 0);
        }
        // at 1,000: 0 at once
        int[] high = {0, 1, 1, 0, 0, 0};
        for (int what = 0; what <= 5; what++) {
            CHECK.left(x, "28 at 1,000 " + what, x.cycle(0, 1000, what), high[what], 0);
        }
        // bound 1,000, by 32, at 250: 0 -1000 1000 -500 1000 -500 ..: ahead 2; 1000 by 1: -500; -500: 2000 held
        LevelBits y = Check.of("loop a by 32 bound 1000 noise 500");
        int[] clipped = {2, 2, 0, 1, 1000, 2};
        for (int what = 0; what <= 5; what++) {
            CHECK.left(y, "28 clipped " + what, y.cycle(0, 250, what), clipped[what], 0);
        }
        CHECK.left(x, "28 what 6", x.cycle(0, 0, 6), NOTHING, 1);
        CHECK.left(x, "28 what ahead of the level", x.cycle(0, 1001, -1), NOTHING, 1);
        CHECK.left(x, "28 loop 3", x.cycle(3, 0, 0), NOTHING, 1);
        CHECK.left(x, "28 loop -1", x.cycle(-1, 0, 0), NOTHING, 1);
        CHECK.left(x, "28 1,001", x.cycle(0, 1001, 0), NOTHING, 2);
        CHECK.left(x, "28 -1,001", x.cycle(0, -1001, 0), NOTHING, 2);
    }

    /** One stage of two values goes by two steps that are 125 times the factor apart, which is LONG at most. */
    private static void cycleLimits() {
        LevelBits x = Check.of("loop a by 16 bound 9999");
        // at 1 sums go by -999 and 1,001: again behind 2,000 clocks, of which 1,001 have out 1
        CHECK.left(x, "28 long", x.cycle(0, 1, 1), 2000, 0);
        CHECK.left(x, "28 long outs", x.cycle(0, 1, 2), 2, 0);
        CHECK.left(x, "28 long ahead", x.cycle(0, 1, 0), 0, 0);
        // three values by 1 at 1: +0 a clock (1 by 16 downwards): at once
        LevelBits y = Check.of("loop a by 1 bound 9999 three; loop b by 16 bound 9999 three");
        CHECK.left(y, "28 at once", y.cycle(0, 1, 1), 1, 0);
        // by 16 at 1: 0 1 .. 500, -499 .. 0: behind 1,000 clocks
        CHECK.left(y, "28 three values", y.cycle(1, 1, 1), 1000, 0);
        CHECK.left(y, "28 three values ahead", y.cycle(1, 1, 0), 0, 0);
        CHECK.left(y, "28 three values outs", y.cycle(1, 1, 2), 1, 0);
        CHECK.left(y, "28 three values changes", y.cycle(1, 1, 5), 2, 0);
        CHECK.left(y, "28 three values greatest", y.cycle(1, 1, 4), 500, 0);
        aheadAndLong("loop a by 24 bound 9999", 1, 0, 3000);
        aheadAndLong("loop a by 24 29 bound 3506 three", 665, 6, 3000);
        aheadAndLong("loop a by 18 7 bound 1331", 712, 7, 2999);
        aheadAndLong("loop a by 9 14 bound 8747", -679, 3000, 250);
        aheadAndLong("loop a by 5 28 23 bound 7850 three", -118, 3000, 1377);
        aheadAndLong("loop a by 16 25 bound 8315", 829, 2999, 2000);
        aheadAndLong("loop a by 7 23 18 bound 5129 three", 419, 2063, 2998);
        noCycle("loop a by 25 bound 9999", 1);
        // 3,001 long; 3,001 ahead
        noCycle("loop a by 28 11 bound 1272 three", 81);
        noCycle("loop a by 5 13 31 bound 4269 three", -866);
        noCycle("loop a by 5 21 17 bound 4475", 72);
        noCycle("loop a by 4 20 bound 9245 three", 4);
    }

    private static void aheadAndLong(String s, int level, int ahead, int lasting) {
        LevelBits x = Check.of(s);
        CHECK.left(x, "28 ahead of " + s, x.cycle(0, level, 0), ahead, 0);
        CHECK.left(x, "28 long of " + s, x.cycle(0, level, 1), lasting, 0);
        CHECK.due("28 again in " + s, x.cycle(0, level, 2) != NOTHING, true);
        CHECK.left(x, "30 the one of " + s, x.sweep(0, level, 1, 1, 2), level, 0);
    }

    private static void noCycle(String s, int level) {
        LevelBits x = Check.of(s);
        for (int what = 0; what <= 5; what++) {
            CHECK.left(x, "28 none of " + s, x.cycle(0, level, what), NOTHING, 5);
        }
        CHECK.left(x, "30 none of " + s, x.sweep(0, level, 0, 2, 0), 0, 0);
        CHECK.left(x, "30 none unclipped of " + s, x.sweep(0, level, 0, 2, 1), 0, 0);
        CHECK.left(x, "30 there is none of " + s, x.sweep(0, level, 0, 2, 2), NOTHING, 0);
    }

    private static void fed() {
        LevelBits x = plain();
        int[] sums = {0, -750, 500, -250, 1000, 250, -500, 750, 0, -750};
        for (int k = 0; k < sums.length; k++) {
            CHECK.left(x, "29 fed " + k, x.fed(0, 0, 250, k), sums[k], 0);
        }
        CHECK.left(x, "29 3,000", x.fed(0, 0, 250, 3000), 0, 0);
        CHECK.left(x, "29 3,001", x.fed(0, 0, 250, 3001), NOTHING, 2);
        CHECK.left(x, "29 -1", x.fed(0, 0, 250, -1), NOTHING, 2);
        CHECK.left(x, "29 level", x.fed(0, 0, 1001, 0), NOTHING, 2);
        CHECK.left(x, "29 level below", x.fed(0, 0, -1001, 0), NOTHING, 2);
        CHECK.left(x, "29 stage 1", x.fed(0, 1, 2000, 0), NOTHING, 1);
        CHECK.left(x, "29 stage -1", x.fed(0, -1, 0, 0), NOTHING, 1);
        CHECK.left(x, "29 loop 3", x.fed(3, 0, 0, 0), NOTHING, 1);
        // loop two (three values, noise 40) without noise: 0, 8 * 1000 by 16 = 500, 500; out 1 then
        CHECK.left(x, "29 without noise", x.fed(1, 1, 1000, 1), 500, 0);
        CHECK.left(x, "29 stage 1 then", x.fed(1, 1, 1000, 2), 0, 0);
        CHECK.left(x, "29 stage 0 then", x.fed(1, 0, 1000, 2), 500, 0);
    }

    private static void sweep() {
        LevelBits x = plain();
        CHECK.left(x, "30 all", x.sweep(0, 0, 250, 5, 0), 5, 0);
        CHECK.left(x, "30 unclipped", x.sweep(0, 0, 250, 5, 1), 5, 0);
        CHECK.left(x, "30 the first of like ones", x.sweep(0, 0, 250, 5, 2), 250, 0);
        CHECK.left(x, "30 downwards", x.sweep(0, 1000, -250, 5, 2), 750, 0);
        CHECK.left(x, "30 step 0", x.sweep(0, 250, 0, 50, 0), 50, 0);
        CHECK.left(x, "30 one, any step", x.sweep(0, 250, Integer.MAX_VALUE, 1, 2), 250, 0);
        CHECK.left(x, "30 edges", x.sweep(0, -1000, 2000, 2, 0), 2, 0);
        CHECK.left(x, "30 many 0", x.sweep(0, 0, 0, 0, 0), NOTHING, 2);
        CHECK.left(x, "30 many 51", x.sweep(0, 0, 0, 51, 0), NOTHING, 2);
        CHECK.left(x, "30 from", x.sweep(0, -1001, 1, 2, 0), NOTHING, 2);
        CHECK.left(x, "30 last", x.sweep(0, 1000, 1, 2, 0), NOTHING, 2);
        CHECK.left(x, "30 last below", x.sweep(0, -999, -1, 3, 0), NOTHING, 2);
        // 4 times 2^30 is 0 as an int
        CHECK.left(x, "30 no wrapping", x.sweep(0, 0, 1 << 30, 5, 0), NOTHING, 2);
        CHECK.left(x, "30 what ahead of numbers", x.sweep(0, 0, 0, 0, 3), NOTHING, 1);
        CHECK.left(x, "30 what -1", x.sweep(0, 0, 0, 1, -1), NOTHING, 1);
        CHECK.left(x, "30 loop", x.sweep(3, 0, 0, 1, 0), NOTHING, 1);
        LevelBits y = Check.of("loop a by 32 bound 1000");
        // at 250, 500, 750 clipped; at 0 only ahead of it: 0, -1000 (held), 1000 -1000 ..; at 1,000: 0 for ever
        CHECK.left(y, "30 clipped", y.sweep(0, 0, 250, 5, 1), 2, 0);
        CHECK.left(y, "30 clipped alone", y.sweep(0, 250, 250, 3, 1), 0, 0);
        CHECK.left(y, "28 a clip ahead of it alone", y.cycle(0, 0, 3), 0, 0);
        CHECK.left(y, "30 clipped are counted by 0", y.sweep(0, 0, 250, 5, 0), 5, 0);
    }

    private static void steady() {
        LevelBits x = plain();
        CHECK.left(x, "31 one", x.steady(0), 1000, 0);
        CHECK.left(x, "31 loop 3", x.steady(3), NONE, 1);
        CHECK.left(x, "31 loop -1", x.steady(-1), NONE, 1);
        LevelBits y = Check.of("loop a by 32 bound 1999; loop b by 16 bound 1000; loop c by 32 bound 2000; loop d by 16 bound 1100 noise 999");
        // at 0: 2 * -1000 is below -1999
        CHECK.left(y, "31 none", y.steady(0), -2, 0);
        // at 50 from -50 to 1,000, at 100 from -100 to 1,000, at 150 from -50 to 1,100
        CHECK.left(y, "31 bound 1,000", y.steady(1), 100, 0);
        CHECK.left(y, "31 bound 2,000", y.steady(2), 100, 0);
        // at 250 from -250 to 1,000, at 300 from -100 to 1,200
        CHECK.left(y, "31 without noise", y.steady(3), 250, 0);
        // at 650 the first clip is in the 1,000th clock; at 650 in the 1,001st, at 700 sooner
        LevelBits z = Check.of("loop a by 24 18 bound 5091 three; loop b by 17 31 bound 9061");
        CHECK.left(z, "31 the last clock counts", z.steady(0), 600, 0);
        CHECK.left(z, "31 the one behind it doesn't", z.steady(1), 650, 0);
    }

    private static void apart() {
        LevelBits x = plain();
        CHECK.left(x, "32 itself", x.apart(1, 1, 0, 500), 0, 0);
        CHECK.left(x, "32 n 0", x.apart(0, 1, 0, 0), NONE, 2);
        CHECK.left(x, "32 n 501", x.apart(0, 1, 0, 501), NONE, 2);
        CHECK.left(x, "32 loop l", x.apart(3, 0, 0, 0), NONE, 1);
        CHECK.left(x, "32 loop k", x.apart(0, 3, 0, 0), NONE, 1);
        CHECK.left(x, "32 loop k -1", x.apart(0, -1, 0, 1), NONE, 1);
        CHECK.left(x, "32 wave", x.apart(0, 0, 2, 0), NONE, 1);
        CHECK.left(x, "32 wave -1", x.apart(0, 0, -1, 1), NONE, 1);
        int[] seeds = {1, 2, 4711, 65535};
        for (int seed : seeds) {
            x.seed(seed);
            CHECK.left(x, "32 as runs " + seed, x.apart(0, 1, 0, 300), unlike(x, 0, 1, 300), 0);
        }
        LevelBits y = Check.of("loop a by 16 bound 9000 noise 999;loop b by 16 bound 9000; wave w hold 0 for 1");
        // a by noise: -1 first; b: 1
        CHECK.left(y, "32 noise", y.apart(0, 1, 0, 1), 1, 0);
        y.seed(2);
        CHECK.left(y, "32 seed", y.apart(0, 1, 0, 1), 0, 0);
        y.begin(0, 0);
        y.run(5);
        y.apart(0, 1, 0, 500);
        CHECK.due("32 the run stays", y.now(2), 5);
    }

    private static int unlike(LevelBits x, int l, int k, int n) {
        int[] outs = new int[n];
        int many = 0;
        x.begin(l, 0);
        for (int t = 0; t < n; t++) {
            outs[t] = x.run(1);
        }
        x.begin(k, 0);
        for (int t = 0; t < n; t++) {
            many += x.run(1) != outs[t] ? 1 : 0;
        }
        return many;
    }

    private static void images() {
        LevelBits x = plain();
        CHECK.left(x, "34 not kept", x.back(0), false, 1);
        CHECK.left(x, "33 k 2", x.keep(2), false, 1);
        CHECK.left(x, "33 k -1", x.keep(-1), false, 1);
        CHECK.left(x, "34 k 2", x.back(2), false, 1);
        CHECK.left(x, "34 k -1", x.back(-1), false, 1);
        CHECK.left(x, "33 no run, too", x.keep(0), true, 0);
        x.seed(99);
        x.begin(1, 0);
        x.run(40);
        long before = print(x);
        CHECK.left(x, "33 keep", x.keep(1), true, 0);
        x.run(30);
        x.seed(5);
        x.begin(2, 1);
        x.run(7);
        CHECK.left(x, "34 back", x.back(1), true, 0);
        CHECK.due("34 as it was", print(x), before);
        int goesOn = x.run(100);
        x.begin(1, 0);
        CHECK.due("34 the seed told", x.now(3), 99);
        CHECK.due("34 back again", x.back(1), true);
        CHECK.due("34 as it was again", print(x), before);
        CHECK.due("34 goes on alike", x.run(100), goesOn);
        CHECK.left(x, "34 back to none", x.back(0), true, 0);
        CHECK.left(x, "34 none", x.now(0), NONE, 1);
        x.begin(1, 0);
        CHECK.due("34 the first seed", x.now(3), 1);
        x.seed(7);
        CHECK.due("33 anew", x.keep(1), true);
        CHECK.due("34 anew", x.back(1), true);
        CHECK.due("34 no clocks", x.now(2), 0);
        CHECK.due("34 the run's own register", x.now(3), 1);
        x.begin(1, 0);
        CHECK.due("34 told behind begin", x.now(3), 7);
        Check.text(x, PLAIN);
        CHECK.left(x, "34 a text leaves none", x.back(0), false, 1);
        CHECK.left(x, "34 a text leaves none 1", x.back(1), false, 1);
    }

    /** A number of all that the run tells. */
    private static long print(LevelBits x) {
        long print = 0;
        for (int what = 0; what <= 4; what++) {
            print = print * 31 + x.now(what);
        }
        for (int stage = 0; stage < 3; stage++) {
            print = print * 31 + x.sum(stage);
            print = print * 31 + x.size(stage);
        }
        for (int t = 0; t <= x.now(2); t++) {
            print = print * 31 + x.out(t);
        }
        return print * 31 + x.astray(0, x.now(2) - 1);
    }

    private static void letter() {
        LevelBits x = Check.of("loop azbycx by 1 bound 1000;wave m hold 1 for 1;loop q by 1 bound 1000");
        x.seed(0);
        int[] letters = {0, 25, 1, 24, 2, 23};
        for (int k = 0; k < 6; k++) {
            CHECK.due("35 letter " + k, Check.letter(x, 0, 0, k), letters[k]);
        }
        CHECK.due("35 wave", Check.letter(x, 1, 0, 0), 12);
        CHECK.due("35 loop 1", Check.letter(x, 0, 1, 0), 16);
        int[][] none = {{0, 0, 6}, {0, 0, -1}, {0, 0, 7}, {0, 1, 1}, {0, 2, 0}, {0, -1, 0}, {1, 1, 0}, {1, 0, 1},
            {2, 0, 0}, {-1, 0, 0}, {0, 0, Integer.MAX_VALUE}, {0, 0, Integer.MIN_VALUE}};
        for (int[] n : none) {
            CHECK.due("35 none " + n[0] + " " + n[1] + " " + n[2], Check.letter(x, n[0], n[1], n[2]), Check.THROWN);
        }
        CHECK.due("35 trouble stays", x.trouble(), 2);
    }

    private static void bytes() {
        LevelBits x = new LevelBits();
        x.feed(1, 2, 3, 4, 5);
        CHECK.due("36 bytes", x.bytes(), 20);
        x.feed(1, 2, 3, 4, 5);
        CHECK.due("36 bytes more", x.bytes(), 40);
        x.text(40);
        CHECK.due("36 none", x.bytes(), 0);
    }

    private static void trouble() {
        LevelBits x = plain();
        CHECK.due("37 none", x.trouble(), 0);
        x.begin(9, 9);
        CHECK.due("37 1", x.trouble(), 1);
        x.bytes();
        x.fault();
        x.where();
        x.feed(0, 0, 0, 0, 0);
        CHECK.due("37 stays", x.trouble(), 1);
        x.seed(0);
        CHECK.due("37 2", x.trouble(), 2);
        x.about(0);
        CHECK.due("37 0", x.trouble(), 0);
        x.text(20);
        CHECK.due("37 4", x.trouble(), 4);
        x.begin(0, 0);
        x.worst(1, 2);
        CHECK.due("37 5", x.trouble(), 5);
        for (int i = 0; i < 9; i++) {
            x.run(500);
        }
        CHECK.due("37 3", x.trouble(), 3);
    }
}
