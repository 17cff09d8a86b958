/** "Terms" I and promises 1 to 9, 35 to 37: each sentence that names an edge has a method of its own here. */
public final class EdgesOfTextTest {
    private static final int NONE = Check.NONE;
    private static final int NOTHING = Check.NOTHING;
    private static final Check CHECK = new Check();

    private static final String[] RESERVED = {"loop", "wave", "by", "bound", "three", "noise",
        "hold", "ramp", "swing", "to", "every", "for"};
    private static final String FOUR_LOOPS = "loop a by 1 bound 1000;loop b by 1 bound 1000;"
        + "loop c by 1 bound 1000;loop d by 1 bound 1000";
    private static final String FOUR_WAVES = "wave e hold 1 for 1;wave f hold 1 for 1;"
        + "wave g hold 1 for 1;wave h hold 1 for 1";

    public static void main(String[] args) {
        theTapeHas600Bytes();
        theLastByteOfAFullTapeIsRead();
        blanksPartTokens();
        blanksMeanNothingElse();
        wordsHaveOneToSixLetters();
        wholesHaveOneToFourDigits();
        smallLettersAlone();
        digitsAlone();
        marksAlone();
        wholesAreNoWordsNorMarks();
        wordsAreNoMarks();
        touchingTokens();
        linesArePartedByOneMark();
        upToFourLoops();
        upToFourWaves();
        oneToThreeStages();
        factors();
        bounds();
        threeOrNot();
        noises();
        upToEightPieces();
        integers();
        clocksOfPieces();
        every();
        namesAreNoWordsOfTheText();
        namesAreToldOnceInAll();
        namesOfOtherTextsAreFree();
        theFirstTokenFromTheLeft();
        ofOneTokenTheLeastNumber();
        tooManyThatStandTogetherAtTheFirst();
        theEndOfTheText();
        integersAtTheirWhole();
        tooManyAtTheirWord();
        newObject();
        feedPutsTheHighestFirst();
        feedBehindTheTape();
        feedBeyondThe600();
        textTakesTheFirstBytes();
        textOfNoBytes();
        textRefusedByItsNumber();
        textTellsHowManyLoops();
        textLeavesTheRegister();
        textTakesAllThatThereWas();
        faultOfTheLatestText();
        whereIsOfTheLatestCall();
        aboutEdges();
        loopEdges();
        waveEdges();
        leastAndGreatest();
        levelBeginsAnew();
        levelEdges();
        ramps();
        swings();
        letterEdges();
        bytesEdges();
        troubleOfEachNumber();
        CHECK.end("edges of texts");
    }

    // ---- the tape

    private static String blanks(int many) {
        return " ".repeat(many);
    }

    private static void theTapeHas600Bytes() {
        LevelBits x = new LevelBits();
        for (int i = 1; i <= 29; i++) {
            x.feed(0, 0, 0, 0, 0);
        }
        CHECK.due("I 580", x.bytes(), 580);
        CHECK.due("I 600 are taken", x.feed(0, 0, 0, 0, 0), 600);
        CHECK.due("I 620 aren't", x.feed(0, 0, 0, 0, 0), NONE);
        CHECK.due("I 600 stay", x.bytes(), 600);
    }

    private static void theLastByteOfAFullTapeIsRead() {
        CHECK.marked(1, blanks(599) + "|x");
        CHECK.marked(1, blanks(600) + "|");
        CHECK.marked(2, "wave a hold 1 for" + blanks(580) + "|501");
        LevelBits x = CHECK.good("wave a hold 1 for" + blanks(580) + "123", 0);
        CHECK.due("I three digits at the end", x.wave(0, 1), 123);
    }

    // ---- tokens

    private static void blanksPartTokens() {
        CHECK.marked(1, "|lo op a by 1 bound 1000");
        CHECK.marked(1, "loop a |b by 1 bound 1000");
        CHECK.marked(1, "wave a hold 1 |0 for 1");
        CHECK.due("I 1 2 are two", CHECK.good("loop a by 1 2 bound 1000", 1).loop(0, 0), 2);
        CHECK.due("I 12 is one", CHECK.good("loop a by 12 bound 1000", 1).loop(0, 0), 1);
        CHECK.marked(2, "loop a by 1 bound |10 00");
    }

    private static void blanksMeanNothingElse() {
        LevelBits x = CHECK.good("   loop   a   by   3   bound   1000   ;   wave   b   hold   -   7   for   2   ,"
            + "   hold   8   for   1   ", 1);
        CHECK.due("I factor", x.loop(0, 1), 3);
        CHECK.due("I level", x.level(0, 0), -7);
        CHECK.due("I level behind", x.level(0, 2), 8);
        CHECK.due("I 31 is none", Check.text(new LevelBits(), "wave\u001fa hold 1 for 1"), NONE);
        CHECK.due("I 33 is none", Check.text(new LevelBits(), "wave!a hold 1 for 1"), NONE);
        CHECK.due("I 160 is none", Check.text(new LevelBits(), "wave\u00a0a hold 1 for 1"), NONE);
    }

    private static void wordsHaveOneToSixLetters() {
        LevelBits x = CHECK.good("loop q by 1 bound 1000;loop qwerty by 1 bound 1000", 2);
        CHECK.due("I one letter", Check.letter(x, 0, 0, 0), 16);
        CHECK.due("I the sixth", Check.letter(x, 0, 1, 5), 24);
        CHECK.marked(1, "loop |qwertyu by 1 bound 1000");
        CHECK.marked(1, "loop |qwertyuiopasdfghjklzxcvbnmqwertyuiop by 1 bound 1000");
        CHECK.marked(1, "|loopab a by 1 bound 1000");
        CHECK.marked(1, "|loopabc a by 1 bound 1000");
    }

    private static void wholesHaveOneToFourDigits() {
        LevelBits x = CHECK.good("loop a by 2 0002 bound 9999;wave b hold 0007 for 0100", 1);
        CHECK.due("I one digit", x.loop(0, 1), 2);
        CHECK.due("I four digits", x.loop(0, 2), 2);
        CHECK.due("I four digits of an INT", x.level(0, 0), 7);
        CHECK.due("I four digits of clocks", x.wave(0, 1), 100);
        CHECK.marked(1, "loop a by |00002 bound 1000");
        CHECK.marked(1, "loop a by 1 bound |01000");
        CHECK.marked(1, "loop a by 1 bound 1000 noise |00001");
        CHECK.marked(1, "wave b hold |00007 for 1");
        CHECK.marked(1, "wave b hold -|00007 for 1");
        CHECK.marked(1, "wave b hold 7 for |00001");
        CHECK.marked(1, "wave b swing 7 every |00002 for 1");
        // as an int this would be 1 again
        CHECK.marked(1, "loop a by |4294967297 bound 1000");
    }

    /** Each of the 256 bytes where a NAME of one letter is due. */
    private static void smallLettersAlone() {
        for (int n = 0; n < 256; n++) {
            String s = "wave " + (char) n + " hold 1 for 1";
            LevelBits x = new LevelBits();
            if (n >= 97 && n <= 122) {
                CHECK.due("I letter " + n, Check.text(x, s), 0);
                CHECK.due("I its number " + n, Check.letter(x, 1, 0, 0), n - 97);
            } else {
                CHECK.faulty(x, s, 1, n == 32 ? 7 : 5);
            }
        }
    }

    /** Each of the 256 bytes where a WHOLE of one digit is due. */
    private static void digitsAlone() {
        for (int n = 0; n < 256; n++) {
            String s = "wave a hold 1 for " + (char) n;
            LevelBits x = new LevelBits();
            if (n >= 49 && n <= 57) {
                CHECK.due("I digit " + n, Check.text(x, s), 0);
                CHECK.due("I its clocks " + n, x.wave(0, 1), n - 48);
            } else {
                CHECK.faulty(x, s, n == 48 ? 2 : 1, n == 32 ? 19 : 18);
            }
        }
    }

    /** Each of the 256 bytes where ; and , go on, a digit makes the WHOLE longer, and blanks mean nothing. */
    private static void marksAlone() {
        for (int n = 0; n < 256; n++) {
            String s = "wave a hold 1 for 1" + (char) n + "wave b hold 1 for 1";
            String t = "wave a hold 1 for 1" + (char) n + "hold 2 for 1";
            String u = "wave a hold " + (char) n + "1 for 1";
            CHECK.due("I parts lines " + n, Check.text(new LevelBits(), s), n == ';' ? 0 : NONE);
            CHECK.due("I parts pieces " + n, Check.text(new LevelBits(), t), n == ',' ? 0 : NONE);
            boolean taken = n == '-' || n == ' ' || n >= '0' && n <= '9';
            CHECK.due("I ahead of an INT " + n, Check.text(new LevelBits(), u), taken ? 0 : NONE);
        }
    }

    /** Each WHOLE, and one digit more, where a WORD or a mark is due, and where a WHOLE may stand itself. */
    private static void wholesAreNoWordsNorMarks() {
        LevelBits x = new LevelBits();
        for (int n = 0; n < 10000; n++) {
            if (n % 6 == 0) {
                x = new LevelBits();
            }
            String five = (100000 + 10 * n + "").substring(1);
            CHECK.faulty(x, "loop a " + n + " 1 bound 1000", 1, 7);
            CHECK.faulty(x, "wave a hold 1 for 1 " + n + " hold 1 for 1", 1, 20);
            CHECK.faulty(x, "wave a hold 1 for 1 " + n + " wave b hold 1 for 1", 1, 20);
            CHECK.faulty(x, "wave a hold 1 for 1 " + five + " hold 1 for 1", 1, 20);
            CHECK.faulty(x, "wave a hold 1 for 1 " + five + " wave b hold 1 for 1", 1, 20);
            CHECK.faulty(x, "wave a hold " + five + " 1 for 1", 1, 12);
            boolean taken = n <= 1000;
            CHECK.due("I hold " + n, Check.text(x, "wave a hold " + n + " for 1"), taken ? 0 : NONE);
            if (taken) {
                CHECK.due("I level " + n, x.level(0, 0), n);
            }
        }
    }

    /** Each WORD of one or two letters where a mark is due. */
    private static void wordsAreNoMarks() {
        LevelBits x = new LevelBits();
        for (int n = 0; n < 26 * 27; n++) {
            if (n % 20 == 0) {
                x = new LevelBits();
            }
            String word = (n >= 26 ? "" + (char) ('a' + n / 26 - 1) : "") + (char) ('a' + n % 26);
            CHECK.faulty(x, "wave a hold 1 for 1 " + word + " hold 1 for 1", 1, 20);
            CHECK.faulty(x, "wave a hold 1 for 1 " + word + " wave b hold 1 for 1", 1, 20);
            CHECK.faulty(x, "wave a hold " + word + " 1 for 1", 1, 12);
        }
    }

    private static void touchingTokens() {
        LevelBits x = CHECK.good("loop a by1 2bound1000three noise9;wave b hold-5for1,hold 6for2", 1);
        CHECK.due("I factors", x.loop(0, 2), 2);
        CHECK.due("I noise", x.loop(0, 6), 9);
        CHECK.due("I level", x.level(0, 0), -5);
        CHECK.due("I level behind", x.level(0, 2), 6);
        CHECK.marked(1, "loop a|1 by 1 bound 1000");
        CHECK.marked(1, "loop a|- by 1 bound 1000");
    }

    // ---- lines

    private static void linesArePartedByOneMark() {
        CHECK.good("wave a hold 1 for 1", 0);
        CHECK.good("wave a hold 1 for 1;wave b hold 1 for 1", 0);
        CHECK.marked(1, "|;wave a hold 1 for 1");
        CHECK.marked(1, "wave a hold 1 for 1;|;wave b hold 1 for 1");
        CHECK.marked(1, "wave a hold 1 for 1;|");
        CHECK.marked(1, "wave a hold 1 for 1; |");
        CHECK.marked(1, "wave a hold 1 for 1 |wave b hold 1 for 1");
        CHECK.marked(1, "loop a by 1 bound 1000 |wave b hold 1 for 1");
        CHECK.marked(1, "loop a by 1 bound 1000|-");
        CHECK.marked(1, "loop a by 1 bound 1000 three|,");
        CHECK.marked(1, "loop a by 1 bound 1000 noise 1|,");
        CHECK.marked(1, "wave a hold 1 for 1;|a");
        CHECK.marked(1, "wave a hold 1 for 1;|1");
    }

    private static void upToFourLoops() {
        LevelBits x = CHECK.good(FOUR_LOOPS, 4);
        CHECK.left(x, "I loop 3", x.loop(3, 4), 1000, 0);
        CHECK.left(x, "I loop 4", x.loop(4, 4), NONE, 1);
        CHECK.good(FOUR_LOOPS + ";" + FOUR_WAVES, 4);
        CHECK.marked(4, FOUR_LOOPS + ";|loop e by 1 bound 1000");
        CHECK.marked(4, FOUR_LOOPS + ";" + FOUR_WAVES + ";|loop i by 1 bound 1000");
    }

    private static void upToFourWaves() {
        LevelBits x = CHECK.good(FOUR_WAVES, 0);
        CHECK.left(x, "I wave 3", x.wave(3, 1), 1, 0);
        CHECK.left(x, "I wave 4", x.wave(4, 1), NOTHING, 1);
        CHECK.good(FOUR_WAVES + ";" + FOUR_LOOPS, 4);
        CHECK.marked(4, FOUR_WAVES + ";|wave i hold 1 for 1");
        CHECK.marked(4, FOUR_WAVES + ";" + FOUR_LOOPS + ";|wave i hold 1 for 1");
    }

    private static void oneToThreeStages() {
        CHECK.marked(1, "loop a by |bound 1000");
        CHECK.due("I one stage", CHECK.good("loop a by 5 bound 1000", 1).loop(0, 0), 1);
        CHECK.due("I two stages", CHECK.good("loop a by 5 6 bound 1000", 1).loop(0, 0), 2);
        CHECK.due("I three stages", CHECK.good("loop a by 5 6 7 bound 1000", 1).loop(0, 0), 3);
        CHECK.marked(4, "loop a by 5 6 7 |8 bound 1000");
    }

    private static void factors() {
        for (int stage = 0; stage < 3; stage++) {
            String ahead = "loop a by " + "9 ".repeat(stage);
            CHECK.due("I factor 1", CHECK.good(ahead + "1 bound 1000", 1).loop(0, stage + 1), 1);
            CHECK.due("I factor 32", CHECK.good(ahead + "32 bound 1000", 1).loop(0, stage + 1), 32);
            CHECK.marked(2, ahead + "|0 bound 1000");
            CHECK.marked(2, ahead + "|33 bound 1000");
            CHECK.marked(2, ahead + "|9999 bound 1000");
            CHECK.marked(1, ahead + "|-1 bound 1000");
        }
    }

    private static void bounds() {
        CHECK.due("I bound 1,000", CHECK.good("loop a by 1 bound 1000", 1).loop(0, 4), 1000);
        CHECK.due("I bound 9,999", CHECK.good("loop a by 1 bound 9999", 1).loop(0, 4), 9999);
        CHECK.marked(2, "loop a by 1 bound |999");
        CHECK.marked(2, "loop a by 1 bound |0");
        CHECK.marked(1, "loop a by 1 bound |10000");
        CHECK.marked(1, "loop a by 1 bound |-1000");
        CHECK.marked(1, "loop a by 1 bound |three");
    }

    private static void threeOrNot() {
        CHECK.due("I two values", CHECK.good("loop a by 1 bound 1000", 1).loop(0, 5), 2);
        CHECK.due("I three values", CHECK.good("loop a by 1 bound 1000 three", 1).loop(0, 5), 3);
        CHECK.due("I two values with noise", CHECK.good("loop a by 1 bound 1000 noise 1", 1).loop(0, 5), 2);
        CHECK.marked(1, "loop a by 1 bound 1000 three |three");
        CHECK.marked(1, "loop a by 1 bound 1000 noise 1 |three");
        CHECK.marked(1, "loop a by 1 |three bound 1000");
    }

    private static void noises() {
        CHECK.due("I noise 0", CHECK.good("loop a by 1 bound 1000", 1).loop(0, 6), 0);
        CHECK.due("I noise 1", CHECK.good("loop a by 1 bound 1000 noise 1", 1).loop(0, 6), 1);
        CHECK.due("I noise 999", CHECK.good("loop a by 1 bound 1000 three noise 999", 1).loop(0, 6), 999);
        CHECK.marked(2, "loop a by 1 bound 1000 noise |0");
        CHECK.marked(2, "loop a by 1 bound 1000 noise |1000");
        CHECK.marked(1, "loop a by 1 bound 1000 noise |-1");
        CHECK.marked(1, "loop a by 1 bound 1000 noise 1 |noise 1");
    }

    // ---- pieces

    private static String pieces(int many) {
        return "wave a hold 1 for 1" + ",hold 1 for 1".repeat(many - 1);
    }

    private static void upToEightPieces() {
        CHECK.marked(1, "wave a |");
        CHECK.marked(1, "wave a|;");
        CHECK.due("I one piece", CHECK.good(pieces(1), 0).wave(0, 0), 1);
        CHECK.due("I eight pieces", CHECK.good(pieces(8), 0).wave(0, 0), 8);
        CHECK.due("I eight of a second wave", CHECK.good(pieces(8) + pieces(8).replace("wave a", ";wave b"), 0).wave(1, 0), 8);
        CHECK.marked(4, pieces(8) + ",|hold 1 for 1");
        CHECK.marked(4, pieces(8) + ",|ramp 1 to 1 for 1");
        CHECK.marked(4, pieces(8) + ",|swing 1 every 2 for 1");
    }

    private static void integers() {
        String[] ahead = {"wave a hold ", "wave a ramp ", "wave a ramp 5 to ", "wave a swing "};
        String[] behind = {" for 1", " to 5 for 1", " for 1", " every 2 for 1"};
        for (int i = 0; i < ahead.length; i++) {
            CHECK.good(ahead[i] + "1000" + behind[i], 0);
            CHECK.good(ahead[i] + "-1000" + behind[i], 0);
            CHECK.good(ahead[i] + "0" + behind[i], 0);
            CHECK.good(ahead[i] + "-0" + behind[i], 0);
            CHECK.marked(2, ahead[i] + "|1001" + behind[i]);
            CHECK.marked(2, ahead[i] + "-|1001" + behind[i]);
            CHECK.marked(2, ahead[i] + "|9999" + behind[i]);
            CHECK.marked(2, ahead[i] + "-|9999" + behind[i]);
            CHECK.marked(1, ahead[i] + "|10000" + behind[i]);
            CHECK.marked(1, ahead[i] + "-|-1" + behind[i]);
            CHECK.marked(1, ahead[i] + "-|" + behind[i].trim());
        }
        CHECK.due("I 1,000", CHECK.good("wave a hold 1000 for 1", 0).level(0, 0), 1000);
        CHECK.due("I -1,000", CHECK.good("wave a hold -1000 for 1", 0).level(0, 0), -1000);
        CHECK.due("I -0", CHECK.good("wave a hold -0 for 1", 0).level(0, 0), 0);
        CHECK.due("I a sign is of its own INT alone",
            CHECK.good("wave a ramp -100 to 100 for 2", 0).level(0, 1), 0);
    }

    private static void clocksOfPieces() {
        for (String piece : new String[] {"hold 1", "ramp 1 to 2", "swing 1 every 2"}) {
            CHECK.due("I for 1", CHECK.good("wave a " + piece + " for 1", 0).wave(0, 1), 1);
            CHECK.due("I for 500", CHECK.good("wave a " + piece + " for 500", 0).wave(0, 1), 500);
            CHECK.marked(2, "wave a " + piece + " for |0");
            CHECK.marked(2, "wave a " + piece + " for |501");
            CHECK.marked(1, "wave a " + piece + " for |-1");
        }
    }

    private static void every() {
        CHECK.good("wave a swing 1 every 2 for 1", 0);
        CHECK.good("wave a swing 1 every 99 for 1", 0);
        CHECK.marked(2, "wave a swing 1 every |0 for 1");
        CHECK.marked(2, "wave a swing 1 every |1 for 1");
        CHECK.marked(2, "wave a swing 1 every |100 for 1");
        CHECK.marked(1, "wave a swing 1 every |-2 for 1");
    }

    // ---- names

    private static void namesAreNoWordsOfTheText() {
        for (String word : RESERVED) {
            CHECK.marked(1, "loop |" + word + " by 1 bound 1000");
            CHECK.marked(1, "wave |" + word + " hold 1 for 1");
            String longer = word.length() < 6 ? word + "x" : "xx";
            String shorter = word.substring(0, word.length() - 1);
            CHECK.good("loop " + longer + " by 1 bound 1000;wave " + shorter + " hold 1 for 1", 1);
        }
    }

    private static void namesAreToldOnceInAll() {
        CHECK.marked(3, "loop a by 1 bound 1000;loop |a by 1 bound 1000");
        CHECK.marked(3, "loop a by 1 bound 1000;wave |a hold 1 for 1");
        CHECK.marked(3, "wave a hold 1 for 1;loop |a by 1 bound 1000");
        CHECK.marked(3, "wave a hold 1 for 1;wave |a hold 1 for 1");
        CHECK.marked(3, FOUR_LOOPS + ";wave |d hold 1 for 1");
        CHECK.marked(3, FOUR_WAVES + ";loop |h by 1 bound 1000");
        CHECK.marked(3, "loop abcdef by 1 bound 1000;loop |abcdef by 1 bound 1000");
        CHECK.good("loop abcdef by 1 bound 1000;loop abcdeg by 1 bound 1000;loop bbcdef by 1 bound 1000;"
            + "wave abcde hold 1 for 1;wave bcdef hold 1 for 1", 3);
    }

    private static void namesOfOtherTextsAreFree() {
        LevelBits x = new LevelBits();
        CHECK.left(x, "I a first text", Check.text(x, "loop a by 1 bound 1000;wave b hold 1 for 1"), 1, 0);
        CHECK.left(x, "I its names again", Check.text(x, "loop b by 1 bound 1000;wave a hold 1 for 1"), 1, 0);
        CHECK.faulty(x, "loop c by 1 bound 1000;loop d by 1 bound 1000;loop", 1, 50);
        CHECK.left(x, "I names of a refused one", Check.text(x, "loop c by 1 bound 1000;wave d hold 1 for 1"), 1, 0);
    }

    // ---- faults

    private static void theFirstTokenFromTheLeft() {
        CHECK.marked(2, "loop a by |33 bound 1 $");
        CHECK.marked(1, "loop a |$ by 33");
        CHECK.marked(3, "loop a by 1 bound 1000;loop |a by 33");
        CHECK.marked(2, "loop a by 1 bound |999;loop a");
        CHECK.marked(4, FOUR_LOOPS + ";|loop a by 33");
        CHECK.marked(3, FOUR_WAVES + ";loop |e by 1;loop");
        CHECK.marked(4, "loop a by 1 2 3 |4 33");
        CHECK.marked(4, pieces(8) + ",|hold 1001 for 0");
        CHECK.marked(2, pieces(7) + ",hold 1 for |0,hold 1 for 1");
        CHECK.marked(1, "loop |abcdefg by 00000");
    }

    private static void ofOneTokenTheLeastNumber() {
        // 1 ahead of 2: too many digits, which are out of bounds, too; a WHOLE where none may stand
        CHECK.marked(1, "loop a by |99999");
        CHECK.marked(1, "loop |9999");
        // 1 ahead of 3: no NAME at all, though told
        CHECK.marked(1, "loop abcdef by 1 bound 1000;loop |abcdefg");
        CHECK.marked(1, "loop a by 1 bound 1000;loop |loop");
        // 1 ahead of 4: what would be the ninth or fifth isn't one, a fourth FACTOR with too many digits
        CHECK.marked(1, pieces(8) + ",|holds");
        CHECK.marked(1, FOUR_LOOPS + ";|loops");
        CHECK.marked(1, "loop a by 1 2 3 |00004");
        // 2 ahead of 4: a fourth FACTOR out of its bounds
        CHECK.marked(2, "loop a by 1 2 3 |0");
        CHECK.marked(2, "loop a by 1 2 3 |33");
        CHECK.marked(4, "loop a by 1 2 3 |1");
        CHECK.marked(4, "loop a by 1 2 3 |32");
    }

    private static void tooManyThatStandTogetherAtTheFirst() {
        CHECK.marked(1, "loop   |abcdefg");
        CHECK.marked(1, "loop a by 1 bound   |12345");
        CHECK.marked(1, "loop a by1 bound|12345");
        CHECK.marked(1, "wave a hold-|12345for");
    }

    private static void theEndOfTheText() {
        CHECK.marked(1, "|");
        CHECK.marked(1, " |");
        CHECK.marked(1, "loop|");
        CHECK.marked(1, "loop   |");
        CHECK.marked(1, "loop a|");
        CHECK.marked(1, "loop a by|");
        CHECK.marked(1, "loop a by 1|");
        CHECK.marked(1, "loop a by 1 2 3|");
        CHECK.marked(1, "loop a by 1 bound|");
        CHECK.marked(1, "loop a by 1 bound 1000 noise|");
        CHECK.marked(1, "wave|");
        CHECK.marked(1, "wave a|");
        CHECK.marked(1, "wave a hold|");
        CHECK.marked(1, "wave a hold -|");
        CHECK.marked(1, "wave a hold 1|");
        CHECK.marked(1, "wave a hold 1 for|");
        CHECK.marked(1, "wave a ramp 1 to|");
        CHECK.marked(1, "wave a swing 1 every|");
        CHECK.marked(1, "wave a hold 1 for 1,|");
        CHECK.marked(1, pieces(8) + ",|");
        CHECK.marked(1, FOUR_LOOPS + ";" + FOUR_WAVES + ";|");
        // where LINES may end, a text may, too
        CHECK.good("loop a by 1 bound 1000", 1);
        CHECK.good("loop a by 1 bound 1000 three", 1);
        CHECK.good("loop a by 1 bound 1000 three noise 5", 1);
        CHECK.good("wave a hold 1 for 1", 0);
        // the text ends at n, not where the tape does
        LevelBits x = new LevelBits();
        Check.feed(x, "wave a hold 1 for 1");
        CHECK.left(x, "I n 17", x.text(17), NONE, 4, 17);
        Check.feed(x, "wave a hold 1 for 1");
        CHECK.left(x, "I n 18", x.text(18), NONE, 4, 18);
        Check.feed(x, "wave abcdefgh hold 1 for 1");
        CHECK.left(x, "I seven letters, cut to six", x.text(11), NONE, 4, 11);
        Check.feed(x, "wave abcdefgh hold 1 for 1");
        CHECK.left(x, "I seven letters", x.text(12), NONE, 4, 5);
        Check.feed(x, "wave a hold 1 for 499999");
        CHECK.left(x, "I three digits of six", x.text(21), 0, 0);
        CHECK.due("I 499", x.wave(0, 1), 499);
    }

    private static void integersAtTheirWhole() {
        CHECK.marked(2, "wave a hold -|1001 for 1");
        CHECK.marked(2, "wave a hold -   |1001 for 1");
        CHECK.marked(2, "wave a ramp 1 to -  |1001 for 1");
        CHECK.marked(2, "wave a ramp -  |1001 to 1 for 1");
        CHECK.marked(2, "wave a swing -|1001 every 2 for 1");
        // a - without its WHOLE: at what stands there instead
        CHECK.marked(1, "wave a hold - |x");
        CHECK.marked(1, "wave a hold - |;");
    }

    private static void tooManyAtTheirWord() {
        CHECK.marked(4, FOUR_LOOPS + "; |loop");
        CHECK.marked(4, FOUR_LOOPS + "; |loop $");
        CHECK.marked(4, FOUR_LOOPS + "; |loop a");
        CHECK.marked(4, FOUR_WAVES + "; |wave");
        CHECK.marked(4, FOUR_WAVES + "; |wave e");
        CHECK.marked(4, pieces(8) + ", |hold");
        CHECK.marked(4, pieces(8) + ", |ramp $");
        CHECK.marked(4, pieces(8) + ", |swing 1001");
        // pieces are counted wave by wave, factors loop by loop
        CHECK.good(pieces(8) + ";wave b hold 1 for 1,hold 1 for 1", 0);
        CHECK.good("loop a by 1 2 3 bound 1000;loop b by 1 2 3 bound 1000", 2);
    }

    // ---- promises 1 to 5

    private static void newObject() {
        LevelBits x = new LevelBits();
        CHECK.due("1 bytes", x.bytes(), 0);
        CHECK.due("1 fault", x.fault(), 0);
        CHECK.due("1 where", x.where(), NONE);
        CHECK.due("1 trouble", x.trouble(), 0);
        CHECK.left(x, "1 no TEXT", x.about(0), NONE, 1);
        CHECK.left(x, "1 no TEXT of waves", x.about(1), NONE, 1);
        CHECK.left(x, "1 no LOOP", x.loop(0, 0), NONE, 1);
        CHECK.left(x, "1 no WAVE", x.wave(0, 0), NOTHING, 1);
        CHECK.left(x, "1 no RUN", x.now(2), NONE, 1);
        CHECK.left(x, "1 no IMAGE", x.back(0), false, 1);
        CHECK.left(x, "1 no IMAGE 1", x.back(1), false, 1);
        // the REGISTER is 1 at first
        Check.text(x, "loop a by 1 bound 1000;wave b hold 1 for 1");
        x.begin(0, 0);
        CHECK.left(x, "1 the first REGISTER", x.now(3), 1, 0);
    }

    private static void feedPutsTheHighestFirst() {
        LevelBits x = new LevelBits();
        // "wave" " bcd" "efg " "hold" " 12 "
        CHECK.due("2 twenty", x.feed(0x77617665, 0x20626364, 0x65666720, 0x686f6c64, 0x20313220), 20);
        // "for " "34; " and bytes that aren't taken
        CHECK.due("2 forty", x.feed(0x666f7220, 0x33343b20, -1, Integer.MIN_VALUE, Integer.MAX_VALUE), 40);
        CHECK.due("2 text", x.text(26), 0);
        for (int k = 0; k < 6; k++) {
            CHECK.due("2 letter " + k, Check.letter(x, 1, 0, k), k + 1);
        }
        CHECK.due("2 level", x.level(0, 0), 12);
        CHECK.due("2 clocks", x.wave(0, 1), 34);
        // a byte above 127 is told by its highest bit, which is an int's, too
        int[] firsts = {0x80000000, 0xff000000, 0x7f000000, 0x00616161};
        for (int first : firsts) {
            x.feed(first, 0, 0, 0, 0);
            CHECK.left(x, "2 first byte", x.text(20), NONE, 4, 0);
        }
    }

    private static void feedBehindTheTape() {
        LevelBits x = new LevelBits();
        CHECK.due("2 twenty", x.feed(0x77617665, 0x20612020, 0x20202020, 0x20202020, 0x20202020), 20);
        CHECK.due("2 forty", x.feed(0x686f6c64, 0x2039666f, 0x72203820, 0x20202020, 0x20202020), 40);
        CHECK.due("2 both", x.text(40), 0);
        CHECK.due("2 level", x.level(0, 0), 9);
        CHECK.due("2 from the tape's begin again", x.feed(0x686f6c64, 0, 0, 0, 0), 20);
        CHECK.left(x, "2 the old bytes are gone", x.text(40), NONE, 2);
        CHECK.left(x, "2 the new ones", x.text(20), NONE, 4, 0);
    }

    private static void feedBeyondThe600() {
        LevelBits x = new LevelBits();
        CHECK.faulty(x, "wave", 1, 4);
        Check.feed(x, blanks(580) + "wave a hold 7 for 3 ");
        CHECK.due("2 full", x.bytes(), 600);
        CHECK.due("2 NONE", x.feed(0x24242424, 0x24242424, 0x24242424, 0x24242424, 0x24242424), NONE);
        CHECK.due("2 NONE again", x.feed(0, 0, 0, 0, 0), NONE);
        CHECK.due("2 trouble() stays", x.trouble(), 4);
        CHECK.due("2 where() stays", x.where(), 4);
        CHECK.due("2 fault() stays", x.fault(), 1);
        CHECK.due("2 none comes", x.bytes(), 600);
        CHECK.left(x, "2 the tape is as it was", x.text(600), 0, 0);
        CHECK.due("2 its level", x.level(0, 0), 7);
        CHECK.due("2 room again", x.feed(0, 0, 0, 0, 0), 20);
    }

    private static void textTakesTheFirstBytes() {
        LevelBits x = new LevelBits();
        Check.feed(x, "wave a hold 1 for 234;loop $");
        CHECK.left(x, "3 19 bytes", x.text(19), 0, 0);
        CHECK.due("3 for 2", x.wave(0, 1), 2);
        CHECK.due("3 the rest is gone", x.bytes(), 0);
        Check.feed(x, "wave a hold 1 for 234;loop $");
        CHECK.left(x, "3 21 bytes", x.text(21), 0, 0);
        CHECK.due("3 for 234", x.wave(0, 1), 234);
        Check.feed(x, "wave a hold 1 for 234");
        CHECK.left(x, "3 all of them", x.text(40), 0, 0);
    }

    private static void textOfNoBytes() {
        LevelBits x = new LevelBits();
        CHECK.left(x, "3 0 of an empty tape", x.text(0), NONE, 4, 0);
        CHECK.due("3 its fault", x.fault(), 1);
        Check.feed(x, "wave a hold 1 for 1");
        CHECK.left(x, "3 0 of a tape", x.text(0), NONE, 4, 0);
        CHECK.due("3 the tape is empty", x.bytes(), 0);
    }

    private static void textRefusedByItsNumber() {
        LevelBits x = new LevelBits();
        CHECK.left(x, "3 1 of an empty tape", x.text(1), NONE, 2);
        CHECK.left(x, "3 -1 of an empty tape", x.text(-1), NONE, 2);
        Check.feed(x, "wave a hold 1 for 1");
        int[] wrong = {-1, 21, 600, 601, Integer.MAX_VALUE, Integer.MIN_VALUE};
        for (int n : wrong) {
            CHECK.left(x, "3 n " + n, x.text(n), NONE, 2);
            CHECK.due("3 the tape stays", x.bytes(), 20);
            CHECK.due("3 the fault stays", x.fault(), 0);
        }
        CHECK.left(x, "3 the last that is taken", x.text(20), 0, 0);
        Check.feed(x, blanks(600));
        CHECK.left(x, "3 601 of a full tape", x.text(601), NONE, 2);
        CHECK.left(x, "3 600 of a full tape", x.text(600), NONE, 4, 600);
    }

    private static void textTellsHowManyLoops() {
        String[] loops = FOUR_LOOPS.split(";");
        String s = "wave w hold 1 for 1";
        CHECK.good(s, 0);
        for (int i = 0; i < 4; i++) {
            s += ";" + loops[i];
            CHECK.good(s, i + 1);
        }
    }

    private static void textLeavesTheRegister() {
        LevelBits x = new LevelBits();
        x.seed(4711);
        Check.text(x, "loop a by 1 bound 1000;wave b hold 1 for 1");
        x.begin(0, 0);
        CHECK.due("3 told ahead of any TEXT", x.now(3), 4711);
        Check.text(x, "loop");
        x.begin(0, 0);
        CHECK.due("3 a refused TEXT leaves it", x.now(3), 4711);
        Check.text(x, "loop c by 1 bound 1000;wave d hold 1 for 1");
        x.begin(0, 0);
        CHECK.due("3 another TEXT leaves it", x.now(3), 4711);
    }

    private static void textTakesAllThatThereWas() {
        LevelBits x = new LevelBits();
        Check.text(x, FOUR_LOOPS.replace("1 bound", "1 2 3 bound").replace("1000", "1000 three noise 5") + ";" + FOUR_WAVES);
        x.begin(3, 3);
        x.run(50);
        x.keep(0);
        x.keep(1);
        Check.text(x, "wave z hold 5 for 2");
        CHECK.left(x, "3 no LOOP", x.loop(0, 0), NONE, 1);
        CHECK.left(x, "3 one WAVE", x.about(1), 1, 0);
        CHECK.left(x, "3 no WAVE 1", x.wave(1, 0), NOTHING, 1);
        CHECK.left(x, "3 no RUN", x.now(2), NONE, 1);
        CHECK.left(x, "3 no OUT", x.out(0), NOTHING, 1);
        CHECK.left(x, "3 no SUM", x.sum(0), NOTHING, 1);
        CHECK.left(x, "3 no size", x.size(0), NONE, 1);
        CHECK.left(x, "3 no clock", x.run(1), NOTHING, 1);
        CHECK.left(x, "3 no IMAGE 0", x.back(0), false, 1);
        CHECK.left(x, "3 no IMAGE 1", x.back(1), false, 1);
        CHECK.due("3 no NAME", Check.letter(x, 0, 0, 0), Check.THROWN);
        CHECK.due("3 its NAME", Check.letter(x, 1, 0, 0), 25);
        Check.text(x, FOUR_LOOPS);
        CHECK.left(x, "3 one STAGE", x.loop(3, 0), 1, 0);
        CHECK.left(x, "3 no second FACTOR", x.loop(3, 2), 0, 0);
        CHECK.left(x, "3 two VALUES", x.loop(3, 5), 2, 0);
        CHECK.left(x, "3 no NOISE", x.loop(3, 6), 0, 0);
        CHECK.left(x, "3 no WAVE", x.about(1), 0, 0);
    }

    private static void faultOfTheLatestText() {
        LevelBits x = new LevelBits();
        CHECK.due("4 ahead of any", x.fault(), 0);
        x.text(1);
        CHECK.due("4 refused by 2 ahead of any", x.fault(), 0);
        String[] faulty = {"", "loop a by 0", "wave a hold 1 for 1;loop a", "loop a by 1 1 1 1"};
        for (int number = 1; number <= 4; number++) {
            Check.text(x, faulty[number - 1]);
            CHECK.due("4 fault " + number, x.fault(), number);
            x.text(1);
            CHECK.due("4 refused by 2 behind " + number, x.fault(), number);
            x.seed(1);
            x.about(0);
            CHECK.due("4 other calls behind " + number, x.fault(), number);
        }
        Check.text(x, "wave a hold 1 for 1");
        CHECK.due("4 without one", x.fault(), 0);
        x.text(1);
        CHECK.due("4 refused by 2 behind none", x.fault(), 0);
    }

    private static void whereIsOfTheLatestCall() {
        LevelBits x = new LevelBits();
        CHECK.due("5 ahead of any", x.where(), NONE);
        CHECK.faulty(x, "loop a by 1 bound 1000;loop a", 3, 28);
        x.feed(0, 0, 0, 0, 0);
        x.fault();
        x.where();
        x.bytes();
        x.trouble();
        Check.letter(x, 0, 0, 0);
        CHECK.due("5 calls of which no number is told leave it", x.where(), 28);
        CHECK.left(x, "5 a call that isn't refused", x.seed(5), true, 0);
        x.text(0);
        CHECK.faulty(x, "loop a by 1 bound 1000;loop a", 3, 28);
        CHECK.left(x, "5 refused by 1", x.about(2), NONE, 1);
        CHECK.faulty(x, "loop a by 1 bound 1000;loop a", 3, 28);
        CHECK.left(x, "5 refused by 2", x.seed(0), false, 2);
        CHECK.faulty(x, "loop a by 1 bound 1000;loop a", 3, 28);
        CHECK.left(x, "5 text() refused by 2", x.text(1), NONE, 2);
        CHECK.faulty(x, "$", 1, 0);
        CHECK.left(x, "5 a good text", Check.text(x, "loop a by 25 bound 9999;wave b hold 1 for 1"), 1, 0);
        CHECK.faulty(x, "wave", 1, 4);
        CHECK.left(x, "5 refused by 5", x.cycle(0, 1, 0), NOTHING, 5);
        x.begin(0, 0);
        for (int i = 0; i < 8; i++) {
            x.run(500);
        }
        CHECK.faulty(x, "wave", 1, 4);
        CHECK.left(x, "5 refused by 3", x.run(97), NOTHING, 3);
    }

    // ---- promises 6 to 9

    private static void aboutEdges() {
        LevelBits x = CHECK.good(FOUR_LOOPS + ";" + FOUR_WAVES, 4);
        CHECK.left(x, "6 what 0", x.about(0), 4, 0);
        CHECK.left(x, "6 what 1", x.about(1), 4, 0);
        int[] wrong = {-1, 2, Integer.MAX_VALUE, Integer.MIN_VALUE};
        for (int what : wrong) {
            CHECK.left(x, "6 what " + what, x.about(what), NONE, 1);
        }
        LevelBits y = CHECK.good("wave a hold 1 for 1", 0);
        CHECK.left(y, "6 no loops", y.about(0), 0, 0);
        LevelBits z = CHECK.good("loop a by 1 bound 1000", 1);
        CHECK.left(z, "6 no waves", z.about(1), 0, 0);
    }

    private static void loopEdges() {
        LevelBits x = CHECK.good("loop a by 32 bound 9999 noise 999;loop b by 1 2 bound 1000 three;"
            + "loop c by 3 4 5 bound 1001;loop d by 6 bound 1002", 4);
        int[][] due = {{1, 32, 0, 0, 9999, 2, 999}, {2, 1, 2, 0, 1000, 3, 0}, {3, 3, 4, 5, 1001, 2, 0}, {1, 6, 0, 0, 1002, 2, 0}};
        for (int l = 0; l < 4; l++) {
            for (int what = 0; what < 7; what++) {
                CHECK.left(x, "7 loop " + l + " what " + what, x.loop(l, what), due[l][what], 0);
            }
        }
        int[] wrong = {-1, 7, Integer.MAX_VALUE, Integer.MIN_VALUE};
        for (int n : wrong) {
            CHECK.left(x, "7 what " + n, x.loop(0, n), NONE, 1);
        }
        int[] none = {-1, 4, Integer.MAX_VALUE, Integer.MIN_VALUE};
        for (int n : none) {
            CHECK.left(x, "7 loop " + n, x.loop(n, 0), NONE, 1);
        }
    }

    private static void waveEdges() {
        LevelBits x = CHECK.good("wave a hold 5 for 1;wave b hold 1 for 2,hold 2 for 3;wave c hold 3 for 4;wave d hold 4 for 500", 0);
        int[][] due = {{1, 1, 5, 5}, {2, 5, 1, 2}, {1, 4, 3, 3}, {1, 500, 4, 4}};
        for (int w = 0; w < 4; w++) {
            for (int what = 0; what < 4; what++) {
                CHECK.left(x, "8 wave " + w + " what " + what, x.wave(w, what), due[w][what], 0);
            }
        }
        int[] wrong = {-1, 4, Integer.MAX_VALUE, Integer.MIN_VALUE};
        for (int n : wrong) {
            CHECK.left(x, "8 what " + n, x.wave(0, n), NOTHING, 1);
            CHECK.left(x, "8 wave " + n, x.wave(n, 0), NOTHING, 1);
        }
    }

    private static void leastAndGreatest() {
        LevelBits x = CHECK.good("wave a hold -1000 for 1;wave b hold 1000 for 1;wave c ramp -5 to -9 for 4,hold -7 for 1;"
            + "wave d swing -1000 every 2 for 1", 0);
        CHECK.left(x, "8 least -1,000", x.wave(0, 2), -1000, 0);
        CHECK.left(x, "8 greatest -1,000", x.wave(0, 3), -1000, 0);
        CHECK.left(x, "8 least 1,000", x.wave(1, 2), 1000, 0);
        CHECK.left(x, "8 greatest 1,000", x.wave(1, 3), 1000, 0);
        // -5 -6 -7 -8, never -9
        CHECK.left(x, "8 least of a ramp", x.wave(2, 2), -8, 0);
        CHECK.left(x, "8 greatest of a ramp", x.wave(2, 3), -5, 0);
        // one clock of it alone
        CHECK.left(x, "8 least of a swing's first clock", x.wave(3, 2), -1000, 0);
        CHECK.left(x, "8 greatest of a swing's first clock", x.wave(3, 3), -1000, 0);
        // the least and the greatest at the first, at the last clock
        LevelBits y = CHECK.good("wave a hold -3 for 1,hold 0 for 5,hold 4 for 1;wave b hold 4 for 1,hold 0 for 5,hold -3 for 1", 0);
        CHECK.left(y, "8 least at the first", y.wave(0, 2), -3, 0);
        CHECK.left(y, "8 greatest at the last", y.wave(0, 3), 4, 0);
        CHECK.left(y, "8 least at the last", y.wave(1, 2), -3, 0);
        CHECK.left(y, "8 greatest at the first", y.wave(1, 3), 4, 0);
    }

    private static void levelBeginsAnew() {
        LevelBits x = CHECK.good("wave a hold 1 for 2,hold 2 for 1;wave b hold 9 for 1", 0);
        int[] a = {1, 1, 2};
        for (int t = 0; t < 9; t++) {
            CHECK.left(x, "II level " + t, x.level(0, t), a[t % 3], 0);
            CHECK.left(x, "II level of one clock " + t, x.level(1, t), 9, 0);
        }
        // 2,147,483,647 is 1 modulo 3
        CHECK.left(x, "II the last clock of all", x.level(0, Integer.MAX_VALUE), 1, 0);
        CHECK.left(x, "II the one ahead of it", x.level(0, Integer.MAX_VALUE - 2), 2, 0);
        LevelBits y = CHECK.good("wave a " + "hold 1 for 500,".repeat(7) + "ramp 0 to 500 for 500", 0);
        CHECK.left(y, "II 4,000 clocks", y.wave(0, 1), 4000, 0);
        CHECK.left(y, "II ahead of the last piece", y.level(0, 3499), 1, 0);
        CHECK.left(y, "II the last piece's first", y.level(0, 3500), 0, 0);
        CHECK.left(y, "II the last", y.level(0, 3999), 499, 0);
        CHECK.left(y, "II anew", y.level(0, 4000), 1, 0);
        CHECK.left(y, "II the last again", y.level(0, 7999), 499, 0);
        // a run goes round, too
        LevelBits z = CHECK.good("loop l by 16 bound 9999 three;wave a hold 0 for 2,hold 1 for 1", 1);
        z.begin(0, 0);
        z.run(3);
        CHECK.due("II fed 1 once", z.sum(0), 1);
        z.run(2);
        CHECK.due("II fed 0 anew", z.sum(0), 1);
        z.run(1);
        CHECK.due("II fed 1 again", z.sum(0), 2);
    }

    private static void levelEdges() {
        LevelBits x = CHECK.good("wave a hold 1 for 2;wave b hold 2 for 1", 0);
        CHECK.left(x, "9 t 0", x.level(0, 0), 1, 0);
        CHECK.left(x, "9 wave 1", x.level(1, 0), 2, 0);
        CHECK.left(x, "9 t -1", x.level(0, -1), NOTHING, 2);
        CHECK.left(x, "9 t least", x.level(0, Integer.MIN_VALUE), NOTHING, 2);
        CHECK.left(x, "9 wave 2", x.level(2, 0), NOTHING, 1);
        CHECK.left(x, "9 wave -1", x.level(-1, 0), NOTHING, 1);
        CHECK.left(x, "9 1 is told first", x.level(2, -1), NOTHING, 1);
    }

    private static void levels(String told, String wave, int... due) {
        LevelBits x = CHECK.good("wave a " + wave, 0);
        CHECK.due(told + ": clocks", x.wave(0, 1), due.length);
        for (int t = 0; t < due.length; t++) {
            CHECK.left(x, told + " at " + t, x.level(0, t), due[t], 0);
        }
    }

    private static void ramps() {
        levels("II a ramp of one clock", "ramp 5 to 9 for 1", 5);
        levels("II of two", "ramp 5 to 10 for 2", 5, 7);
        levels("II downwards above 0", "ramp 0 to 2 for 3", 0, 0, 1);
        levels("II downwards below 0", "ramp 0 to -2 for 3", 0, -1, -2);
        levels("II down to 0", "ramp 1 to 0 for 3", 1, 0, 0);
        levels("II up to 0", "ramp -1 to 0 for 3", -1, -1, -1);
        levels("II nowhere", "ramp 7 to 7 for 3", 7, 7, 7);
        levels("II k is of the piece", "hold 1 for 2,ramp 10 to 20 for 2,ramp 20 to 10 for 2", 1, 1, 10, 15, 20, 15);
        LevelBits x = CHECK.good("wave a ramp -1000 to 1000 for 500;wave b ramp 1000 to -1000 for 500", 0);
        CHECK.due("II first", x.level(0, 0), -1000);
        CHECK.due("II second", x.level(0, 1), -996);
        CHECK.due("II last", x.level(0, 499), 996);
        CHECK.due("II first down", x.level(1, 0), 1000);
        CHECK.due("II second down", x.level(1, 1), 996);
        CHECK.due("II last down", x.level(1, 499), -996);
    }

    private static void swings() {
        levels("II every 2", "swing 7 every 2 for 5", 7, -7, 7, -7, 7);
        // e 0 1 1: 1, -1 by 3 downwards
        levels("II every 3", "swing 1 every 3 for 4", 1, -1, -1, 1);
        levels("II every 3 below 0", "swing -1 every 3 for 4", -1, 0, 0, -1);
        levels("II every 4", "swing 9 every 4 for 5", 9, 0, -9, 0, 9);
        levels("II every 5", "swing 10 every 5 for 6", 10, 2, -6, -6, 2, 10);
        levels("II of 0", "swing 0 every 3 for 3", 0, 0, 0);
        levels("II k is of the piece", "hold 1 for 1,swing 5 every 2 for 1,swing 6 every 2 for 2", 1, 5, 6, -6);
        LevelBits x = CHECK.good("wave a swing 1000 every 99 for 500;wave b swing -1000 every 99 for 99", 0);
        // 1,000 * (99 - 4 e) by 99
        int[][] due = {{0, 1000}, {1, 959}, {24, 30}, {25, -11}, {49, -980}, {50, -980}, {51, -940}, {98, 959}, {99, 1000},
            {495, 1000}, {499, 838}, {500, 1000}};
        for (int[] d : due) {
            CHECK.due("II every 99 at " + d[0], x.level(0, d[0]), d[1]);
        }
        CHECK.due("II every 99 below 0", x.level(1, 1), -960);
        CHECK.due("II every 99 below 0 farthest", x.level(1, 49), 979);
    }

    // ---- promises 35 to 37

    private static void letterEdges() {
        LevelBits x = CHECK.good("loop zaz by 1 bound 1000;loop qwerty by 1 bound 1000;wave b hold 1 for 1", 2);
        CHECK.due("35 z", Check.letter(x, 0, 0, 0), 25);
        CHECK.due("35 a", Check.letter(x, 0, 0, 1), 0);
        CHECK.due("35 last", Check.letter(x, 0, 0, 2), 25);
        CHECK.due("35 behind the last", Check.letter(x, 0, 0, 3), Check.THROWN);
        int[] qwerty = {16, 22, 4, 17, 19, 24};
        for (int k = 0; k < 6; k++) {
            CHECK.due("35 letter " + k, Check.letter(x, 0, 1, k), qwerty[k]);
        }
        CHECK.due("35 of a wave", Check.letter(x, 1, 0, 0), 1);
        // 32 more as a shift would be the first letter again
        int[] places = {-1, 6, 7, 32, 64, -32, Integer.MAX_VALUE, Integer.MIN_VALUE};
        for (int k : places) {
            CHECK.due("35 letter " + k, Check.letter(x, 0, 1, k), Check.THROWN);
        }
        int[] numbers = {-1, 2, 4, Integer.MAX_VALUE, Integer.MIN_VALUE};
        for (int i : numbers) {
            CHECK.due("35 loop " + i, Check.letter(x, 0, i, 0), Check.THROWN);
            CHECK.due("35 wave " + i, Check.letter(x, 1, i, 0), Check.THROWN);
            CHECK.due("35 kind " + i, Check.letter(x, i, 0, 0), Check.THROWN);
        }
        CHECK.due("35 wave 1", Check.letter(x, 1, 1, 0), Check.THROWN);
        CHECK.due("35 no TEXT", Check.letter(new LevelBits(), 0, 0, 0), Check.THROWN);
        CHECK.due("35 no TEXT of waves", Check.letter(new LevelBits(), 1, 0, 0), Check.THROWN);
    }

    private static void bytesEdges() {
        LevelBits x = new LevelBits();
        CHECK.due("36 none", x.bytes(), 0);
        x.feed(0, 0, 0, 0, 0);
        CHECK.due("36 twenty", x.bytes(), 20);
        x.text(21);
        CHECK.due("36 by 2 they stay", x.bytes(), 20);
        x.text(20);
        CHECK.due("36 by 4 it is empty", x.bytes(), 0);
        Check.feed(x, "wave a hold 1 for 1" + blanks(581));
        CHECK.due("36 full", x.bytes(), 600);
        x.feed(0, 0, 0, 0, 0);
        CHECK.due("36 full still", x.bytes(), 600);
        x.text(20);
        CHECK.due("36 a TEXT leaves none", x.bytes(), 0);
    }

    private static void troubleOfEachNumber() {
        LevelBits x = new LevelBits();
        CHECK.due("37 ahead of any", x.trouble(), 0);
        x.about(0);
        CHECK.due("37 1", x.trouble(), 1);
        x.seed(0);
        CHECK.due("37 2", x.trouble(), 2);
        x.text(0);
        CHECK.due("37 4", x.trouble(), 4);
        Check.text(x, "loop a by 1 bound 1000;wave b hold 1 for 1");
        CHECK.due("37 0 behind a text", x.trouble(), 0);
        x.begin(0, 0);
        x.worst(1, 2);
        CHECK.due("37 5", x.trouble(), 5);
        for (int i = 0; i < 8; i++) {
            x.run(500);
        }
        CHECK.due("37 0 behind a run", x.trouble(), 0);
        x.run(97);
        CHECK.due("37 3", x.trouble(), 3);
        x.trouble();
        x.bytes();
        x.fault();
        x.where();
        x.feed(0, 0, 0, 0, 0);
        Check.letter(x, 0, 0, 0);
        Check.letter(x, 0, 0, 9);
        CHECK.due("37 calls of which no number is told leave it", x.trouble(), 3);
        x.now(0);
        CHECK.due("37 0", x.trouble(), 0);
    }
}
