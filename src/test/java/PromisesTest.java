import java.nio.charset.StandardCharsets;

/** For each promise: ordinary inputs, the edges that the document names, wrong inputs. */
public final class PromisesTest {
    private static final int BAD = -1, NO = -2, FULL = -3, NONE = -4;

    /** All kinds, hates, and both ends of skill. */
    private static final String COURT = "t0,3;i0,1,1,9,20;i1,2,4,8,50;i2,3,2,10,5;i0,2,3,7,9;"
        + "i2,3,5,6,1;i1,3,0,4,2;i0,3,4,2,99;h1,2;h3,4;";
    private static final int[] WRONG = {-1, Integer.MIN_VALUE, Integer.MAX_VALUE};

    private static int wrong = 0;

    private static void due(String what, long got, long want) {
        if (got != want) {
            wrong++;
            System.out.println(what + " answered " + got + ", due is " + want);
        }
    }

    private static void write(MouthsToJudge court, String text) {
        for (byte b : text.getBytes(StandardCharsets.ISO_8859_1)) {
            court.write(1, b);
        }
    }

    private static MouthsToJudge written(String text) {
        MouthsToJudge court = new MouthsToJudge();
        write(court, text);
        return court;
    }

    private static MouthsToJudge laid(String text, int... seats) {
        MouthsToJudge court = written(text);
        if (court.lay() < 1) {
            wrong++;
            System.out.println("not laid: " + text);
        }
        for (int i : seats) {
            court.seat(i);
        }
        return court;
    }

    private static void speak(MouthsToJudge court, int... senses) {
        for (int s : senses) {
            court.word(s);
        }
    }

    private static void faultOf(String text, int want) {
        due("1/4 fault of " + text, written(text).fault(), want);
    }

    public static void main(String[] args) {
        newObject();
        write();
        wipe();
        fault();
        faultOfNumbers();
        lay();
        mouth();
        makes();
        seat();
        unseat();
        undo();
        chain();
        judged();
        word();
        silence();
        said();
        comes();
        was();
        back();
        best();
        bestAmongEquals();
        bribes();
        parrot();
        trial();
        falls();
        keep();
        again();
        count();
        orderOfAnswers();
        System.out.println(wrong == 0 ? "all answers are as due" : wrong + " answers are not as due");
        if (wrong != 0) {
            System.exit(1);
        }
    }

    private static void newObject() {
        MouthsToJudge court = new MouthsToJudge();
        int[] counts = {1, 0, 0, 0, 0, 0, 0, 1};
        for (int what = 0; what < 8; what++) {
            due("1 count(" + what + ")", court.count(what), counts[what]);
        }
        int[] traits = {0, 1, 0, 10, 5};
        for (int what = 0; what < 5; what++) {
            due("1 mouth(0, " + what + ")", court.mouth(0, what), traits[what]);
        }
        due("1 fault", court.fault(), NONE);
        due("1 lay", court.lay(), NO);
        due("1 chain", court.chain(0), NONE);
        due("1 undo", court.undo(), NO);
        due("1 again", court.again(), NO);
        due("1 best", court.best(7, -1), 1);
    }

    private static void write() {
        MouthsToJudge court = new MouthsToJudge();
        due("2 write(0)", court.write(0, 65), BAD);
        due("2 write(9)", court.write(9, 65), BAD);
        for (int n : WRONG) {
            due("2 write(" + n + ")", court.write(n, 65), BAD);
        }
        due("2 nothing written", court.count(5), 0);
        // The bytes above the lowest five are no part of the text.
        due("2 highest first", court.write(5, 0xFFFFFF74322C373BL), 5);
        due("2 write(8) behind", court.write(8, 0x69302C312C302C31L), 13);
        due("2 write(3) behind", court.write(3, 0x2C393BL), 16);
        due("2 read so", court.lay(), 1);
        due("2 who speaks", court.count(6), 2);
        due("2 who hears", court.count(7), 7);
        due("2 price", court.mouth(0, 4), 9);
        court.wipe();
        for (int k = 1; k <= 24; k++) {
            due("2 write(8)", court.write(8, -1L), 8 * k);
        }
        due("2 write(7) to 199", court.write(7, -1L), 199);
        due("2 full by two", court.write(2, 0), FULL);
        due("2 BAD ahead of FULL", court.write(9, 0), BAD);
        due("2 still 199", court.count(5), 199);
        due("2 to 200", court.write(1, 0), 200);
        due("2 full by one", court.write(1, 0), FULL);
        due("2 200", court.count(5), 200);
    }

    private static void wipe() {
        MouthsToJudge court = laid("t2,3;i0,1,0,1,1;", 0);
        due("3 wipe", court.wipe(), 16);
        due("3 wiped", court.wipe(), 0);
        due("3 no bytes", court.count(5), 0);
        due("3 the court stays", court.count(6), 2);
        due("3 the chain stays", court.count(1), 1);
        due("3 write again", court.write(2, 0), 2);
    }

    private static void fault() {
        faultOf("", NONE);
        faultOf(COURT, NONE);
        faultOf("t0,8;t8,0;t4,4;", NONE);
        faultOf("x", 0);
        faultOf(";", 0);
        faultOf("T0,1;", 0);
        faultOf("t0,1", 0);
        faultOf("t0,1,", 0);
        faultOf("t0,1,;", 0);
        faultOf("t0,1,2;", 0);
        faultOf("t0;", 0);
        faultOf("t,1;", 0);
        faultOf("t;", 0);
        faultOf("t", 0);
        faultOf("t0.1;", 0);
        faultOf("t0,1:", 0);
        faultOf("t 0,1;", 0);
        faultOf("t0,-1;", 0);
        faultOf("t0,1; ", 5);
        faultOf("t0,1;;", 5);
        faultOf("t0,1;t0,1", 5);
        faultOf("t0,1;i0,1,0,1,1;x", 16);
        faultOf("i0,1,0,1,1;h0,1;i0,1,0,1,1;", 11);
        faultOf("i0,1,0,1,1;i0,1,0,1,1;h0,1;h1,0;h0,1;", NONE);
        faultOf("i0,1,0,1,1;i0,1,0,1,1;h0,0;", 22);
        faultOf("i0,1,0,1,1;i0,1,0,1,1;h1,1;", 22);
        faultOf("i0,1,0,1,1;i0,1,0,1,1;h2,0;", 22);
        faultOf("i0,1,0,1,1;i0,1,0,1,1;h0,2;", 22);
        faultOf("i0,1,0,1,1;i0,1,0,1,1;h0,99;", 22);
        String seven = "i0,1,0,1,1;".repeat(7);
        faultOf(seven, NONE);
        faultOf(seven + "h6,0;h00,06;", NONE);
        faultOf(seven + "h7,0;", 77);
        faultOf(seven + "i0,1,0,1,1;", 77);
        faultOf(seven + "t0,1;i0,1,0,1,1;", 82);
        faultOf("t0,1;\u0000", 5);
        faultOf("t0,1;\u00f4", 5);
        faultOf("\u00f40,1;", 0);
        faultOf("t\u00b0,1;", 0);
        // 0x174 has the byte of t: a text holds bytes alone.
        MouthsToJudge court = new MouthsToJudge();
        court.write(1, 0x174);
        write(court, "0,1;");
        due("4 bytes alone", court.fault(), NONE);
        due("4 fault lays nothing", court.count(7), 1);
    }

    private static void faultOfNumbers() {
        faultOf("t9,0;", 0);
        faultOf("t0,9;", 0);
        faultOf("t08,00;", NONE);
        faultOf("t008,0;", 0);
        faultOf("t0,10;", 0);
        faultOf("i8,0,5,10,99;", NONE);
        faultOf("i08,00,05,10,00;", NONE);
        faultOf("i9,0,5,10,99;", 0);
        faultOf("i0,9,5,10,99;", 0);
        faultOf("i8,8,5,10,99;", 0);
        faultOf("i8,08,5,10,99;", 0);
        faultOf("i8,0,6,10,99;", 0);
        faultOf("i8,0,5,11,99;", 0);
        faultOf("i8,0,5,10,100;", 0);
        faultOf("i8,0,5,010,9;", 0);
        faultOf("i8,0,5,10;", 0);
        faultOf("i8,0,5,10,9,9;", 0);
        faultOf("i8,0,5,10,;", 0);
        faultOf("i8,0,5,10,9", 0);
    }

    private static void lay() {
        MouthsToJudge court = laid(COURT, 0, 1);
        speak(court, 1, 2);
        court.keep();
        due("5 lay", court.lay(), 7);
        due("5 no chain", court.count(1), 0);
        due("5 no sentence", court.count(2), 0);
        due("5 nothing to be undone", court.undo(), NO);
        due("5 nothing kept", court.again(), NO);
        due("5 the text stays", court.count(5), COURT.length());
        court.seat(3);
        speak(court, 8);
        court.keep();
        write(court, "x");
        due("5 lay with a fault", court.lay(), NO);
        due("5 the chain stays", court.chain(0), 3);
        due("5 the sentence stays", court.said(0, 1), 9);
        due("5 the kept stay", court.count(4), 1);
        due("5 seven stay", court.count(0), 7);
        court.wipe();
        write(court, "t5,6;");
        due("5 no interpreter", court.lay(), NO);
        due("5 no such tongue", court.count(6), 0);
        write(court, "t7,8;i1,2,3,4,5;t3,2;");
        due("5 one", court.lay(), 1);
        due("5 the last t", court.count(6), 3);
        due("5 the last t hears", court.count(7), 2);
        court.wipe();
        write(court, "i1,2,3,4,5;");
        due("5 without t", court.lay(), 1);
        due("5 0 without", court.count(6), 0);
        due("5 1 without", court.count(7), 1);
        hatesOfAnotherCourt();
    }

    private static void hatesOfAnotherCourt() {
        MouthsToJudge court = laid("t0,2;i0,1,0,9,1;i1,2,0,9,1;h0,1;");
        due("5 hated", court.best(2, -1), NONE);
        court.wipe();
        write(court, "t0,2;i0,1,0,9,1;i1,2,0,9,1;");
        court.lay();
        due("5 hated no more", court.best(2, -1), 2);
        court.lay();
        due("5 nor then", court.best(2, -1), 2);
    }

    private static void mouth() {
        MouthsToJudge court = laid(COURT);
        int[][] traits = {{0, 1, 1, 9, 20}, {1, 2, 4, 8, 50}, {2, 3, 2, 10, 5}, {0, 2, 3, 7, 9},
            {2, 3, 5, 6, 1}, {1, 3, 0, 4, 2}, {0, 3, 4, 2, 99}};
        for (int i = 0; i < 7; i++) {
            for (int what = 0; what < 5; what++) {
                due("6 mouth(" + i + ", " + what + ")", court.mouth(i, what), traits[i][what]);
            }
            due("6 mouth(" + i + ", 5)", court.mouth(i, 5), BAD);
        }
        due("6 mouth(7, 0)", court.mouth(7, 0), BAD);
        for (int n : WRONG) {
            due("6 mouth(" + n + ", 0)", court.mouth(n, 0), BAD);
            due("6 mouth(0, " + n + ")", court.mouth(0, n), BAD);
        }
        MouthsToJudge turned = laid("i8,2,0,0,0;");
        due("6 tongues as told", turned.mouth(0, 0) * 10 + turned.mouth(0, 1), 82);
    }

    private static void makes() {
        MouthsToJudge court = new MouthsToJudge();
        String[] made = {"0123456789", "0133456789", "0123567789", "0123456799", "0213456789",
            "1121456789"};
        for (int kind = 0; kind < 6; kind++) {
            for (int s = 0; s < 10; s++) {
                due("7 makes(" + kind + ", " + s + ")", court.makes(kind, s),
                    made[kind].charAt(s) - '0');
            }
            due("7 makes(" + kind + ", 10)", court.makes(kind, 10), BAD);
        }
        due("7 makes(6, 0)", court.makes(6, 0), BAD);
        for (int n : WRONG) {
            due("7 makes(" + n + ", 0)", court.makes(n, 0), BAD);
            due("7 makes(0, " + n + ")", court.makes(0, n), BAD);
        }
    }

    private static void seat() {
        MouthsToJudge court = laid(COURT);
        for (int i = 0; i < 7; i++) {
            due("8 seat", court.seat(6 - i), i + 1);
            due("8 seated", court.seat(6 - i), NO);
        }
        due("8 seat(7)", court.seat(7), BAD);
        for (int n : WRONG) {
            due("8 seat(" + n + ")", court.seat(n), BAD);
        }
        due("8 seven", court.count(1), 7);
        due("8 seven to be undone", court.count(3), 7);
        due("8 first", court.chain(0), 6);
        due("8 last", court.chain(6), 0);
    }

    private static void unseat() {
        MouthsToJudge court = laid(COURT, 4, 2, 5);
        due("9 the last", court.unseat(), 5);
        due("9 can be seated again", court.seat(5), 3);
        due("9 again", court.unseat(), 5);
        due("9 then", court.unseat(), 2);
        due("9 the first", court.unseat(), 4);
        due("9 none", court.unseat(), NO);
        due("9 none to be undone by that", court.count(3), 8);
        due("9 a later first", court.seat(1), 1);
    }

    private static void undo() {
        MouthsToJudge court = laid(COURT, 3, 1, 4);
        due("10 undo a seat", court.undo(), 2);
        due("10 two", court.count(1), 2);
        due("10 unseat", court.unseat(), 1);
        due("10 undo an unseat", court.undo(), 2);
        due("10 he is back", court.chain(1), 1);
        due("10 he is seated", court.seat(1), NO);
        due("10 undo", court.undo(), 1);
        due("10 undo", court.undo(), 0);
        due("10 nothing", court.undo(), NO);
        due("10 none seated", court.count(1), 0);
        for (int k = 0; k < 3; k++) {
            court.seat(k);
        }
        for (int k = 0; k < 3; k++) {
            court.unseat();
            court.seat(4 + k);
        }
        // Nine were done: the first seating can't be undone any more.
        due("10 at most 8", court.count(3), 8);
        int[] sizes = {2, 3, 2, 3, 2, 3, 2, 1};
        for (int k = 0; k < 8; k++) {
            due("10 undo of 8", court.undo(), 7 - k);
            due("10 seated then", court.count(1), sizes[k]);
        }
        due("10 no ninth", court.undo(), NO);
        due("10 the first stays", court.chain(0), 0);
        court.word(1);
        court.silence();
        due("10 words are not undone", court.undo(), NO);
    }

    private static void chain() {
        MouthsToJudge court = laid(COURT, 5, 0, 3);
        due("11 chain(0)", court.chain(0), 5);
        due("11 chain(1)", court.chain(1), 0);
        due("11 chain(2)", court.chain(2), 3);
        due("11 chain(3)", court.chain(3), NONE);
        due("11 chain(7)", court.chain(7), NONE);
        due("11 chain(max)", court.chain(Integer.MAX_VALUE), NONE);
        due("11 chain(-1)", court.chain(-1), BAD);
        due("11 chain(min)", court.chain(Integer.MIN_VALUE), BAD);
        court.unseat();
        due("11 unseated", court.chain(2), NONE);
    }

    private static void judged() {
        due("12 none, unlike tongues", laid(COURT).judged(), 0);
        due("12 none, one tongue", laid("t3,3;i0,1,0,0,0;").judged(), NONE);
        due("12 through", laid(COURT, 0, 1, 2).judged(), NONE);
        due("12 the first can't", laid(COURT, 1, 0).judged(), 0);
        due("12 the second can't", laid(COURT, 0, 2).judged(), 1);
        due("12 the third can't", laid(COURT, 0, 1, 5, 4).judged(), 2);
        due("12 not the judge's", laid(COURT, 0, 1).judged(), 2);
        due("12 there and back", laid("t1,1;i0,1,0,0,0;i1,0,0,0,0;", 0, 1).judged(), NONE);
        due("12 past the judge", laid("t0,1;i0,1,0,0,0;i1,0,0,0,0;", 1, 0).judged(), 2);
    }

    private static void word() {
        MouthsToJudge court = new MouthsToJudge();
        due("13 word(10)", court.word(10), BAD);
        for (int n : WRONG) {
            due("13 word(" + n + ")", court.word(n), BAD);
        }
        for (int k = 0; k < 12; k++) {
            due("13 word", court.word(k % 10), k + 1);
        }
        due("13 full", court.word(0), FULL);
        due("13 BAD ahead of FULL", court.word(10), BAD);
        for (int k = 0; k < 12; k++) {
            due("13 the word", court.said(k, 0), k % 10);
        }
    }

    private static void silence() {
        MouthsToJudge court = laid(COURT, 0);
        due("14 none", court.silence(), 0);
        speak(court, 4, 5, 6);
        due("14 three", court.silence(), 3);
        due("14 none then", court.count(2), 0);
        due("14 not said", court.said(0, 0), NONE);
        due("14 the chain stays", court.count(1), 1);
        due("14 a word then", court.word(9), 1);
        due("14 that word", court.said(0, 0), 9);
    }

    private static void said() {
        MouthsToJudge court = laid(COURT, 6, 0, 4, 3, 2);
        speak(court, 1, 2, 8, 6, 0);
        int[][] said = {{1, 2, 3, 1, 1, 1}, {2, 1, 1, 1, 1, 1}, {8, 8, 8, 8, 9, 9},
            {6, 6, 6, 6, 6, 7}, {0, 0, 0, 1, 1, 1}};
        for (int i = 0; i < 5; i++) {
            for (int k = 0; k <= 5; k++) {
                due("15 said(" + i + ", " + k + ")", court.said(i, k), said[i][k]);
            }
            due("15 k above", court.said(i, 6), BAD);
        }
        due("15 not so many", court.said(5, 0), NONE);
        due("15 not so many", court.said(Integer.MAX_VALUE, 5), NONE);
        due("15 BAD ahead of NONE", court.said(5, 6), BAD);
        for (int n : WRONG) {
            due("15 wrong k", court.said(0, n), BAD);
        }
        due("15 i below 0", court.said(-1, 0), BAD);
        due("15 i below 0", court.said(Integer.MIN_VALUE, 0), BAD);
    }

    private static void fraction(String what, long above, long below, long wantAbove,
            long wantBelow) {
        due(what + " above", above, wantAbove);
        due(what + " below", below, wantBelow);
    }

    private static void comes(MouthsToJudge court, int s, int t, int above, int below) {
        fraction("16 comes(" + s + ", " + t + ")", court.comes(s, t, 0), court.comes(s, t, 1),
            above, below);
    }

    private static void comes() {
        MouthsToJudge court = laid(COURT);
        comes(court, 3, 3, 1, 1);
        comes(court, 3, 4, 0, 1);
        court.seat(0);
        comes(court, 2, 3, 9, 10);
        comes(court, 2, 4, 1, 10);
        comes(court, 2, 2, 0, 1);
        comes(court, 9, 9, 9, 10);
        comes(court, 9, 0, 1, 10);
        court.seat(3);
        comes(court, 8, 9, 7, 10);
        comes(court, 8, 0, 3, 10);
        comes(court, 7, 9, 7, 100);
        comes(court, 2, 3, 63, 100);
        wrongSenses(court);
        MouthsToJudge sure = laid("i0,1,0,0,0;i0,1,0,0,0;", 0, 1);
        comes(sure, 8, 0, 1, 1);
        comes(sure, 9, 1, 1, 1);
        comes(sure, 9, 9, 0, 1);
        MouthsToJudge longest = laid("i0,1,0,9,0;".repeat(7), 0, 1, 2, 3, 4, 5, 6);
        comes(longest, 4, 4, 4782969, 10000000);
        comes(longest, 4, 1, 1, 10000000);
        comes(longest, 4, 5, 7 * 531441, 10000000);
    }

    private static void wrongSenses(MouthsToJudge court) {
        int[] wrongs = {-1, 10, Integer.MIN_VALUE, Integer.MAX_VALUE};
        int[] wrongParts = {-1, 2, Integer.MIN_VALUE, Integer.MAX_VALUE};
        for (int n : wrongs) {
            due("16 wrong s", court.comes(n, 0, 0), BAD);
            due("16 wrong t", court.comes(0, n, 1), BAD);
            due("17 wrong s", court.was(n, 0, 0), BAD);
            due("17 wrong t", court.was(0, n, 1), BAD);
            due("18 wrong s", court.back(n, 0), BAD);
        }
        for (int n : wrongParts) {
            due("16 wrong part", court.comes(0, 0, n), BAD);
            due("17 wrong part", court.was(0, 0, n), BAD);
            due("18 wrong part", court.back(0, n), BAD);
        }
    }

    private static void was(MouthsToJudge court, int s, int t, int above, int below) {
        fraction("17 was(" + s + ", " + t + ")", court.was(s, t, 0), court.was(s, t, 1),
            above, below);
    }

    private static void was() {
        MouthsToJudge court = laid(COURT);
        was(court, 3, 3, 1, 1);
        was(court, 3, 4, 0, 1);
        court.seat(0);
        // NO and PERHAPS come as PERHAPS nine times each, YES slips to NO once.
        was(court, 2, 3, 1, 2);
        was(court, 3, 3, 1, 2);
        was(court, 1, 2, 1, 1);
        was(court, 2, 4, 1, 11);
        was(court, 4, 4, 9, 11);
        was(court, 7, 2, 0, 1);
        MouthsToJudge never = laid("i0,1,1,10,0;", 0);
        due("17 can't come", never.was(2, 2, 0), NONE);
        due("17 can't come", never.was(1, 2, 1), NONE);
        due("17 BAD ahead of NONE", never.was(1, 2, 2), BAD);
        due("17 BAD ahead of NONE", never.was(10, 2, 0), BAD);
        was(never, 2, 3, 1, 2);
    }

    private static void back(MouthsToJudge court, int s, long above, long below) {
        fraction("18 back(" + s + ")", court.back(s, 0), court.back(s, 1), above, below);
    }

    private static void back() {
        MouthsToJudge court = laid(COURT);
        back(court, 5, 1, 1);
        court.seat(6);
        // CONTRARY, SKILL 2: YES comes back without a slip alone, NO by none or two.
        back(court, 1, 1, 25);
        back(court, 5, 1, 25);
        back(court, 2, 17, 25);
        MouthsToJudge order = laid("i0,1,1,10,0;i0,1,4,10,0;", 0, 1);
        // Forth NO PERHAPS PERHAPS; YES: YES, NO, then back YES, YES.
        back(order, 2, 0, 1);
        back(order, 1, 1, 1);
        MouthsToJudge turned = laid("i0,1,1,10,0;i0,1,4,10,0;", 1, 0);
        back(turned, 1, 0, 1);
        back(turned, 2, 1, 1);
        MouthsToJudge longest = laid("i0,1,0,9,0;".repeat(7), 0, 1, 2, 3, 4, 5, 6);
        // Nine to the fourteenth, and those who slip ten times of fourteen.
        long round = 22876792454961L + 1001L * 9 * 9 * 9 * 9;
        back(longest, 4, round / 2, 50000000000000L);
        due("18 that is even", round % 2, 0);
    }

    private static void best(MouthsToJudge court, int m, int... row) {
        due("19 best(" + m + ", -1)", court.best(m, -1), row.length == 0 ? NONE : row.length);
        for (int i = 0; i < 9; i++) {
            due("19 best(" + m + ", " + i + ")", court.best(m, i), i < row.length ? row[i] : NONE);
        }
        due("19 best(" + m + ", -2)", court.best(m, -2), BAD);
    }

    private static void best() {
        MouthsToJudge court = laid(COURT, 1, 5);
        best(court, 1, 6);
        for (int m = 2; m <= 7; m++) {
            best(court, m, 3, 2);
        }
        due("19 best(0)", court.best(0, -1), BAD);
        due("19 best(8)", court.best(8, -1), BAD);
        due("19 far beyond", court.best(7, Integer.MAX_VALUE), NONE);
        for (int n : WRONG) {
            due("19 best(" + n + ")", court.best(n, 0), BAD);
        }
        due("19 i far below", court.best(7, Integer.MIN_VALUE), BAD);
        due("19 the chain stays", court.chain(1), 5);
        best(laid("t0,2;i0,1,0,10,0;i2,3,0,10,0;"), 7);
        best(laid("t0,2;i0,1,0,10,0;i2,1,0,10,0;"), 1);
        best(laid("t0,2;i0,1,0,10,0;i2,1,0,10,0;"), 2, 0, 1);
        // A row has one at least, even where who speaks and who judges share a tongue.
        best(laid("t2,2;i0,1,0,10,0;i2,1,0,10,0;"), 7);
        best(laid("t2,2;i2,0,0,1,0;i2,0,0,1,0;"), 7, 0, 1);
        best(laid("t2,2;i2,0,0,1,0;i2,0,0,1,0;h0,1;"), 7);
    }

    private static void bestAmongEquals() {
        // The shortest of equals counts.
        best(laid("t0,2;i0,1,0,10,0;i1,2,0,10,0;i0,2,0,10,0;"), 7, 2);
        best(laid("t0,2;i0,1,0,9,0;i1,2,0,10,0;i0,2,0,9,0;"), 7, 2);
        best(laid("t0,2;i0,2,0,8,0;i0,1,0,9,0;i1,2,0,10,0;"), 7, 1, 2);
        best(laid("t0,2;i0,2,0,8,0;i0,1,0,9,0;i1,2,0,10,0;"), 1, 0);
        // Of rows of a length the first by the first, then by the second.
        best(laid("t0,1;i0,1,0,10,0;i0,1,0,10,0;"), 7, 0);
        best(laid("t0,2;i1,2,0,10,0;i2,1,0,10,0;i1,0,0,10,0;i0,1,0,10,0;"), 7, 2, 0);
        best(laid("t0,2;i1,2,0,9,0;i2,1,0,10,0;i1,0,0,10,0;i0,1,0,10,0;"), 7, 2, 1);
        best(laid("t0,2;i1,2,0,9,0;i2,1,0,10,0;i1,0,0,10,0;i0,1,0,10,0;h1,2;"), 7, 3, 1);
        best(laid("t0,2;i1,2,0,9,0;i2,1,0,10,0;i1,0,0,10,0;i0,1,0,10,0;h1,2;h3,1;"), 7, 2, 0);
        // What CONTRARY ones turn about twice is kept.
        best(laid("t0,1;i0,1,4,10,0;i0,1,4,10,0;i0,1,0,10,0;h0,2;h1,2;"), 7, 2);
        best(laid("t0,1;i0,1,4,10,0;i0,1,4,10,0;i0,1,0,4,0;"), 7, 0);
        best(laid("t0,0;i0,1,4,10,0;i1,0,4,10,0;i0,1,0,9,0;"), 7, 0, 1);
        // Who HATES may sit in a row, if another is between.
        best(laid("t0,3;i0,1,0,10,0;i1,2,0,10,0;i2,3,0,10,0;h0,2;"), 3, 0, 1, 2);
        best(laid("t0,3;i0,1,0,10,0;i1,2,0,10,0;i2,3,0,10,0;h2,1;"), 3);
        best(laid("t0,7;i6,7,0,5,0;i5,6,0,5,0;i4,5,0,5,0;i3,4,0,5,0;i2,3,0,5,0;i1,2,0,5,0;"
            + "i0,1,0,5,0;"), 7, 6, 5, 4, 3, 2, 1, 0);
        best(laid("t0,7;i6,7,0,5,0;i5,6,0,5,0;i4,5,0,5,0;i3,4,0,5,0;i2,3,0,5,0;i1,2,0,5,0;"
            + "i0,1,0,5,0;"), 6);
    }

    private static void bribes(MouthsToJudge court, int sum, int set) {
        due("20 the sum", court.bribes(0), sum);
        due("20 the set", court.bribes(1), set);
    }

    private static void bribes() {
        bribes(laid(COURT), NONE, NONE);
        bribes(laid(COURT, 0), 20, 1);
        bribes(laid(COURT, 6), 0, 0);
        bribes(laid(COURT, 0, 5, 2, 6), 22, 33);
        // EAGER makes YES of the PERHAPS that POLITE makes of NO.
        bribes(laid(COURT, 0, 4), 0, 0);
        bribes(laid(COURT, 4, 0), 1, 16);
        // Both are CONTRARY already: no bribe changes what they do.
        bribes(laid(COURT, 6, 1), NONE, NONE);
        bribes(laid(COURT, 6, 1, 5), 2, 32);
        // Of equal sums the fewest, then the least bits, wherever they sit.
        bribes(laid("i0,1,0,0,5;i0,1,0,0,5;", 1, 0), 5, 1);
        bribes(laid("i0,1,0,0,0;i0,1,0,0,0;i0,1,0,0,0;", 2, 1), 0, 2);
        String two = "i0,1,1,0,2;i0,1,5,0,3;i0,1,0,0,%d;i0,1,4,0,0;";
        bribes(laid(String.format(two, 4), 0, 1, 3, 2), 4, 4);
        bribes(laid(String.format(two, 5), 0, 1, 3, 2), 5, 4);
        bribes(laid(String.format(two, 6), 0, 1, 3, 2), 5, 3);
        // SKILL does not matter, nor TONGUES.
        bribes(laid("i7,8,0,0,99;", 0), 99, 1);
        bribes(laid("i0,1,0,0,99;".repeat(7), 6, 5, 4, 3, 2, 1, 0), 99, 1);
        MouthsToJudge court = laid(COURT, 0);
        due("20 bribes(2)", court.bribes(2), BAD);
        for (int n : WRONG) {
            due("20 bribes(" + n + ")", court.bribes(n), BAD);
        }
        due("20 nobody is bribed", court.said(0, 0) + court.comes(2, 3, 0), NONE + 9);
    }

    private static void parrot(MouthsToJudge court, int n, int place, int above, int below) {
        due("21 parrot(" + n + ", 0)", court.parrot(n, 0), place);
        fraction("21 parrot(" + n + ")", court.parrot(n, 1), court.parrot(n, 2), above, below);
        due("21 parrot(" + n + ", 3)", court.parrot(n, 3), BAD);
        due("21 parrot(" + n + ", -1)", court.parrot(n, -1), BAD);
    }

    private static void parrot() {
        MouthsToJudge court = laid(COURT, 0, 5, 2);
        parrot(court, 1, 1, 27, 50);
        parrot(court, 2, 1, 81, 100);
        parrot(court, 3, 0, 1, 1);
        parrot(court, 4, NONE, NONE, NONE);
        parrot(court, 7, NONE, NONE, NONE);
        due("21 parrot(0)", court.parrot(0, 0), BAD);
        due("21 parrot(8)", court.parrot(8, 0), BAD);
        for (int n : WRONG) {
            due("21 parrot(" + n + ")", court.parrot(n, 0), BAD);
            due("21 what " + n, court.parrot(1, n), BAD);
        }
        due("21 the chain stays", court.count(1), 3);
        parrot(laid(COURT), 1, NONE, NONE, NONE);
        // All alike: the first. The worst last: the last.
        parrot(laid("i0,1,0,9,0;".repeat(7), 0, 1, 2, 3, 4, 5, 6), 7, 0, 1, 1);
        parrot(laid("i0,1,0,9,0;".repeat(7), 0, 1, 2, 3, 4, 5, 6), 6, 0, 9, 10);
        parrot(laid("i0,1,0,9,0;".repeat(7), 0, 1, 2, 3, 4, 5, 6), 1, 0, 531441, 1000000);
        parrot(laid("i0,1,0,9,0;i0,1,0,10,0;i0,1,0,8,0;i0,1,0,5,0;", 0, 1, 2, 3), 2, 2, 9, 10);
        parrot(laid("i0,1,0,0,0;i0,1,0,10,0;", 0, 1), 1, 0, 1, 1);
        parrot(laid("i0,1,0,0,0;i0,1,0,10,0;", 0), 1, 0, 1, 1);
        parrot(laid("i0,1,0,0,0;i0,1,0,0,0;", 0, 1), 1, 0, 0, 1);
    }

    private static void trial() {
        MouthsToJudge court = laid("i0,1,0,0,0;i0,1,0,10,0;i0,1,0,1,0;i0,1,4,7,0;", 0, 1);
        speak(court, 1, 9);
        // SKILL 0 slips always, SKILL 10 never.
        due("22 slips", court.trial(0, 0), 2);
        due("22 slips behind 9", court.trial(9999, 1), 0);
        due("22 no third word", court.trial(0, 2), NONE);
        due("22 no third word", court.trial(0, Integer.MAX_VALUE), NONE);
        due("22 i below 0", court.trial(0, -1), BAD);
        due("22 i below 0", court.trial(0, Integer.MIN_VALUE), BAD);
        due("22 z above", court.trial(10000, 0), BAD);
        due("22 BAD ahead of NONE", court.trial(10000, 2), BAD);
        for (int n : WRONG) {
            due("22 wrong z", court.trial(n, 0), BAD);
        }
        MouthsToJudge lucky = laid("i0,1,0,1,0;i0,1,4,7,0;i0,1,0,8,0;", 0);
        speak(lucky, 1, 4, 0, 2);
        // x is 1, its square ends in 1, the SKILL itself.
        due("22 a draw of SKILL is a slip", lucky.trial(0, 0), 2);
        // x is 6152: 41487.
        due("22 a draw above it is one", lucky.trial(0, 1), 5);
        lucky.seat(1);
        // x is 3572: 48110, below 7: NO is turned about, and that is all.
        due("22 a draw below it is none", lucky.trial(0, 0), 1);
        // x is 26373: 29714, then 29944: 53772.
        due("22 the fourth word at z = 1", lucky.trial(1, 3), 3);
        due("22 no words", laid(COURT, 0).trial(5, 0), NONE);
        MouthsToJudge turned = laid("i0,1,4,0,0;i0,1,1,0,0;", 0);
        speak(turned, 1, 2);
        due("22 the slip is behind the kind", turned.trial(3, 0), 3);
        due("22 the slip is behind the kind", turned.trial(3, 1), 2);
        turned.seat(1);
        due("22 and again", turned.trial(3, 1), 4);
    }

    private static void falls() {
        MouthsToJudge court = laid("i0,1,0,0,0;i0,1,4,10,0;i0,1,0,10,0;i0,1,1,10,0;", 0);
        due("23 no words", court.falls(0), 0);
        court.word(1);
        due("23 all fall", court.falls(0), 10);
        due("23 all fall", court.falls(9999), 10);
        due("23 z above", court.falls(10000), BAD);
        for (int n : WRONG) {
            due("23 wrong z", court.falls(n), BAD);
        }
        court.unseat();
        due("23 no mouth", court.falls(0), 0);
        court.seat(2);
        due("23 none falls", court.falls(77), 0);
        court.seat(1);
        due("23 turned about", court.falls(77), 10);
        court.word(2);
        due("23 as many of both", court.falls(77), 0);
        court.seat(3);
        // Of YES and NO comes NO and YES, then PERHAPS and YES.
        due("23 more are YES", court.falls(77), 10);
        court.word(2);
        due("23 fewer were YES", court.falls(77), 10);
        court.silence();
        speak(court, 3, 4, 0);
        due("23 neither", court.falls(77), 0);
        fallsRoundTheEnd();
    }

    private static void fallsRoundTheEnd() {
        MouthsToJudge court = laid("i0,1,0,5,0;i0,1,4,6,0;", 0, 1);
        speak(court, 1, 2, 2);
        for (int z : new int[] {0, 1, 5000, 9989, 9990, 9991, 9995, 9999}) {
            int fallen = 0;
            for (int d = 0; d < 10; d++) {
                fallen += leansToNo(court, (z + d) % 10000) ? 0 : 1;
            }
            due("23 falls(" + z + ")", court.falls(z), fallen);
        }
    }

    private static boolean leansToNo(MouthsToJudge court, int z) {
        int balance = 0;
        for (int i = 0; i < 3; i++) {
            int came = court.trial(z, i);
            balance += came == 1 ? 1 : came == 2 ? -1 : 0;
        }
        return balance < 0;
    }

    private static void keep() {
        MouthsToJudge court = laid(COURT, 0);
        due("24 one", court.keep(), 1);
        due("24 undo stays", court.count(3), 1);
        due("24 the chain stays", court.count(1), 1);
        due("24 two", court.keep(), 2);
        due("24 full", court.keep(), FULL);
        due("24 two are kept", court.count(4), 2);
        court.again();
        due("24 two again", court.keep(), 2);
    }

    private static void again() {
        MouthsToJudge court = laid(COURT, 0, 1);
        speak(court, 4, 2);
        court.keep();
        court.unseat();
        court.unseat();
        court.seat(5);
        court.silence();
        speak(court, 8, 9, 1);
        court.keep();
        court.unseat();
        court.seat(3);
        court.silence();
        due("25 as kept last", court.again(), 1);
        due("25 its chain", court.chain(0), 5);
        due("25 one seated", court.count(1), 1);
        due("25 three words", court.count(2), 3);
        due("25 its words", court.said(1, 0), 9);
        due("25 nothing is to be undone", court.undo(), NO);
        court.seat(2);
        court.silence();
        speak(court, 0);
        due("25 as kept first", court.again(), 0);
        due("25 its chain", court.chain(0) * 10 + court.chain(1), 1);
        due("25 two seated", court.count(1), 2);
        due("25 two words", court.count(2), 2);
        due("25 its first word", court.said(0, 0), 4);
        due("25 its last word", court.said(1, 0), 2);
        due("25 nothing to be undone", court.count(3), 0);
        court.seat(6);
        due("25 none is kept", court.again(), NO);
        due("25 that undoes nothing", court.count(1), 3);
        due("25 what can be undone stays", court.count(3), 1);
    }

    private static void count() {
        MouthsToJudge court = laid(COURT, 0, 1, 2);
        court.unseat();
        speak(court, 1, 2, 3, 4);
        court.keep();
        write(court, "zz");
        int[] counts = {7, 2, 4, 4, 1, COURT.length() + 2, 0, 3};
        for (int what = 0; what < 8; what++) {
            due("26 count(" + what + ")", court.count(what), counts[what]);
        }
        due("26 count(8)", court.count(8), BAD);
        for (int n : WRONG) {
            due("26 count(" + n + ")", court.count(n), BAD);
        }
    }

    /** Of several the first of BAD, NO, NONE, FULL, and nothing changes. */
    private static void orderOfAnswers() {
        MouthsToJudge court = laid(COURT, 0);
        due("BAD ahead of NONE in best", laid("t0,5;i0,1,0,1,1;").best(0, 5), BAD);
        due("BAD ahead of NONE in bribes", court.bribes(2), BAD);
        due("BAD ahead of NONE in parrot", court.parrot(2, 3), BAD);
        due("BAD ahead of NONE in said", court.said(0, 2), BAD);
        due("nothing changes", court.count(1) * 100 + court.count(2) * 10 + court.count(3), 101);
    }
}
