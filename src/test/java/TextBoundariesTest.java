/** The boundary cases of THE TEXT, of what is LAID and of KINDS: promises 1 to 7. */
public final class TextBoundariesTest {
    private static final int BAD = Boundaries.BAD, NO = Boundaries.NO, FULL = Boundaries.FULL,
        NONE = Boundaries.NONE;
    private static final String ONE = "i0,1,0,1,1;";
    private static final String SEVEN = ONE.repeat(7);

    public static void main(String[] args) {
        newObjects();
        writing();
        wiping();
        items();
        tongues();
        interpreters();
        hates();
        faults();
        laying();
        mouths();
        kinds();
        Boundaries.end();
    }

    private static void due(String call, long got, long want) {
        Boundaries.due(call, got, want);
    }

    private static void faultOf(String text, int want) {
        Boundaries.faultOf(text, want);
    }

    // ---- promise 1

    private static void newObjects() {
        Boundaries.of(1, "As told; THE TEXT is empty.", () -> {
            MouthsToJudge court = new MouthsToJudge();
            due("count(5)", court.count(5), 0);
            due("fault()", court.fault(), NONE);
            due("wipe()", court.wipe(), 0);
        });
        Boundaries.of(1, "at first i0,1,0,10,5;", () -> {
            MouthsToJudge court = new MouthsToJudge();
            int[] traits = {0, 1, 0, 10, 5};
            due("count(0)", court.count(0), 1);
            for (int what = 0; what < 5; what++) {
                due("mouth(0, " + what + ")", court.mouth(0, what), traits[what]);
            }
            due("count(6)", court.count(6), 0);
            due("count(7)", court.count(7), 1);
        });
        Boundaries.of(1, "THE CHAIN is a row of unlike INTERPRETERS (none at first)", () -> {
            MouthsToJudge court = new MouthsToJudge();
            Boundaries.chainIs(court);
            Boundaries.sentenceIs(court);
            due("undo()", court.undo(), NO);
            due("again()", court.again(), NO);
        });
        Boundaries.of(1, "A new object", () -> {
            // What one object has been told is nothing to another.
            MouthsToJudge court = new MouthsToJudge();
            MouthsToJudge other = Boundaries.laid("t2,3;i2,3,4,5,6;i2,3,4,5,6;", 1);
            Boundaries.speak(other, 5);
            other.keep();
            due("count(5)", court.count(5), 0);
            due("count(0)", court.count(0), 1);
            due("count(1)", court.count(1), 0);
            due("count(4)", court.count(4), 0);
            due("mouth(0, 3)", new MouthsToJudge().mouth(0, 3), 10);
        });
    }

    // ---- promise 2

    private static void writing() {
        Boundaries.of(2, "n bytes (1 to 8)", () -> {
            MouthsToJudge court = new MouthsToJudge();
            for (int n : new int[] {0, 9, -1, 10, 16, 256, 264}) {
                due("write(" + n + ", 65)", court.write(n, 65), BAD);
            }
            for (int n : Boundaries.FAR) {
                due("write(" + n + ", 65)", court.write(n, 65), BAD);
            }
            int length = 0;
            for (int n = 1; n <= 8; n++) {
                length += n;
                due("write(" + n + ", 65)", court.write(n, 65), length);
            }
        });
        Boundaries.of(2, "The lowest n bytes", TextBoundariesTest::lowestBytes);
        Boundaries.of(2, "the highest of these first", TextBoundariesTest::highestFirst);
        Boundaries.of(2, "come behind THE TEXT", () -> {
            MouthsToJudge court = Boundaries.written("t0,1;");
            due("write(5, t2,3;)", court.write(5, 0x74322C333BL), 10);
            due("write(1, x)", court.write(1, 'x'), 11);
            due("fault()", court.fault(), 10);
        });
        Boundaries.of(2, "A TEXT is bytes (200 at most)", () -> {
            for (int n = 1; n <= 8; n++) {
                fillBy(n);
            }
        });
        Boundaries.of(2, "BAD; FULL.", () -> {
            String full = "t0,1;".repeat(40);
            Boundaries.leavesAll("write(0, 0)", () -> Boundaries.written(full),
                court -> court.write(0, 0), BAD);
            Boundaries.leavesAll("write(9, 0)", () -> Boundaries.written(full),
                court -> court.write(9, 0), BAD);
            Boundaries.leavesAll("write(1, 0)", () -> Boundaries.written(full),
                court -> court.write(1, 0), FULL);
            // Not even those bytes that there is room for come behind it.
            Boundaries.leavesAll("write(8, 0)", () -> Boundaries.written("t0,1;".repeat(39)),
                court -> court.write(8, 0), FULL);
            due("fault()", Boundaries.written(full).fault(), NONE);
        });
    }

    private static void lowestBytes() {
        for (int n = 5; n <= 8; n++) {
            // Of eight bytes xyzt2,7; the lowest n are written.
            MouthsToJudge court = new MouthsToJudge();
            due("write(" + n + ")", court.write(n, 0x78797A74322C373BL), n);
            due("fault()", court.fault(), n == 5 ? NONE : 0);
        }
        MouthsToJudge court = new MouthsToJudge();
        for (int b : "t2,7;".toCharArray()) {
            court.write(1, b | 0xFFFFFFFFFFFFFF00L);
        }
        due("fault() of bytes below set ones", court.fault(), NONE);
        for (int b : new int[] {0, 127, 128, 255}) {
            MouthsToJudge odd = new MouthsToJudge();
            due("write(1, " + b + ")", odd.write(1, b), 1);
            due("fault()", odd.fault(), 0);
        }
        MouthsToJudge negative = new MouthsToJudge();
        due("write(8, min)", negative.write(8, Long.MIN_VALUE), 8);
        due("write(8, -1)", negative.write(8, -1), 16);
        due("fault()", negative.fault(), 0);
    }

    private static void highestFirst() {
        MouthsToJudge court = new MouthsToJudge();
        // i8,0,5,1 and 0,99;
        due("write(8)", court.write(8, 0x69382C302C352C31L), 8);
        due("write(5)", court.write(5, 0x302C39393BL), 13);
        due("lay()", court.lay(), 1);
        int[] traits = {8, 0, 5, 10, 99};
        for (int what = 0; what < 5; what++) {
            due("mouth(0, " + what + ")", court.mouth(0, what), traits[what]);
        }
        for (int n = 2; n <= 8; n++) {
            // Of n bytes the last is a t, which would be at place 0 if it came first.
            MouthsToJudge last = new MouthsToJudge();
            long semicolons = 0x3B3B3B3B3B3B3B00L;
            last.write(5, 0x74302C313BL);
            last.write(n, semicolons | 't');
            due("fault() behind write(" + n + ")", last.fault(), 5);
        }
    }

    private static void fillBy(int n) {
        MouthsToJudge court = new MouthsToJudge();
        int length = 0;
        while (length + n <= 200) {
            length += n;
            due("write(" + n + ", 0)", court.write(n, 0), length);
        }
        due("write(" + n + ", 0) at " + length, court.write(n, 0), FULL);
        for (int rest = 8; rest > 200 - length; rest--) {
            due("write(" + rest + ", 0) at " + length, court.write(rest, 0), FULL);
        }
        if (length < 200) {
            due("write to 200", court.write(200 - length, 0), 200);
        }
        due("count(5)", court.count(5), 200);
        due("write(1, 0) at 200", court.write(1, 0), FULL);
    }

    // ---- promise 3

    private static void wiping() {
        Boundaries.of(3, "THE TEXT is empty: how long it was.", () -> {
            MouthsToJudge court = new MouthsToJudge();
            due("wipe() of none", court.wipe(), 0);
            court.write(1, 'x');
            due("wipe() of one", court.wipe(), 1);
            due("count(5)", court.count(5), 0);
            due("fault()", court.fault(), NONE);
            Boundaries.write(court, "x".repeat(200));
            due("wipe() of 200", court.wipe(), 200);
            due("write(8)", court.write(8, 0), 8);
            due("wipe()", court.wipe(), 8);
            // What was written ahead is not read again, neither behind nor within an ITEM.
            Boundaries.write(court, "t0,1;x");
            court.wipe();
            Boundaries.write(court, "t0,1;");
            due("fault()", court.fault(), NONE);
            court.wipe();
            Boundaries.write(court, "t0,1");
            due("fault()", court.fault(), 0);
        });
        Boundaries.of(3, "THE TEXT is empty", () -> {
            // And nothing else is.
            MouthsToJudge court = Boundaries.laid("t2,3;" + SEVEN, 4, 2);
            Boundaries.speak(court, 6);
            court.keep();
            due("wipe()", court.wipe(), 82);
            due("count(0)", court.count(0), 7);
            due("count(6)", court.count(6), 2);
            due("count(3)", court.count(3), 2);
            due("count(4)", court.count(4), 1);
            Boundaries.chainIs(court, 4, 2);
            Boundaries.sentenceIs(court, 6);
            due("lay()", court.lay(), NO);
        });
    }

    // ---- promise 4: what an ITEM is

    private static void items() {
        Boundaries.of(4, "ITEMS one behind the other", () -> {
            faultOf("", NONE);
            faultOf("t0,1;t0,1;", NONE);
            for (String between : new String[] {" ", ";", ",", "0", "\n", "\u0000", "\u00ff"}) {
                faultOf("t0,1;" + between + "t0,1;", 5);
                faultOf(between + "t0,1;", 0);
                faultOf("t0,1;" + between, 5);
            }
        });
        Boundaries.of(4, "each a letter", () -> {
            for (int b = 0; b < 256; b++) {
                faultOf(ONE + ONE + (char) b + "0,1;", b == 't' || b == 'h' ? NONE : 22);
                faultOf((char) b + "0,1,0,1,1;", b == 'i' ? NONE : 0);
            }
            faultOf("t", 0);
            faultOf("0,1;", 0);
            faultOf("tt0,1;", 0);
        });
        Boundaries.of(4, "numbers (one or two figures)", TextBoundariesTest::figures);
        Boundaries.of(4, "parted by ,", () -> {
            for (int b = 0; b < 256; b++) {
                faultOf("t0" + (char) b + "1;", b == ',' ? NONE : 0);
                faultOf("i0,1,0,1" + (char) b + "1;", b == ',' ? NONE : 0);
            }
            faultOf("t0,,1;", 0);
            faultOf("t,0,1;", 0);
            faultOf("t0,1,;", 0);
            faultOf("t0 ,1;", 0);
        });
        Boundaries.of(4, "and ; (behind the last one, too)", () -> {
            for (int b = 0; b < 256; b++) {
                faultOf("t0,1" + (char) b, b == ';' ? NONE : 0);
                faultOf("t0,1;t0,1" + (char) b + "t0,1;", b == ';' ? NONE : 5);
            }
            faultOf("t0,1", 0);
            faultOf(ONE + "i0,1,0,1,1", 11);
            faultOf("t0,1;;", 5);
        });
        Boundaries.of(4, "tA,B", () -> countOfNumbers('t', "", 2));
        Boundaries.of(4, "iA,B,K,S,P", () -> countOfNumbers('i', "", 5));
        Boundaries.of(4, "hI,J", () -> countOfNumbers('h', ONE + ONE, 2));
    }

    private static void countOfNumbers(char letter, String ahead, int needed) {
        for (int many = 0; many <= 7; many++) {
            StringBuilder item = new StringBuilder(ahead).append(letter);
            for (int k = 0; k < many; k++) {
                item.append(k == 0 ? "" : ",").append(k == 0 ? 0 : 1);
            }
            faultOf(item.append(';').toString(), many == needed ? NONE : ahead.length());
        }
    }

    private static void figures() {
        for (int b = 0; b < 256; b++) {
            boolean tongue = b >= '0' && b <= '8';
            faultOf("t" + (char) b + ",1;", tongue ? NONE : 0);
            faultOf("t1," + (char) b + ";", tongue ? NONE : 0);
            faultOf("t0" + (char) b + ",1;", tongue ? NONE : 0);
        }
        for (int b = 0; b < 256; b++) {
            boolean figure = b >= '0' && b <= '9';
            faultOf("i" + (char) b + ",1,0,1,1;", figure && b < '9' && b != '1' ? NONE : 0);
            faultOf("i0," + (char) b + ",0,1,1;", figure && b < '9' && b != '0' ? NONE : 0);
            faultOf("i0,1," + (char) b + ",1,1;", figure && b < '6' ? NONE : 0);
            faultOf("i0,1,0," + (char) b + ",1;", figure ? NONE : 0);
            faultOf("i0,1,0,1" + (char) b + ",1;", b == '0' ? NONE : 0);
            faultOf("i0,1,0,1," + (char) b + ";", figure ? NONE : 0);
            // A ; is behind the number then, and at fault is the one behind that.
            faultOf("i0,1,0,1,9" + (char) b + ";", figure ? NONE : b == ';' ? 11 : 0);
            faultOf(ONE + ONE + "h" + (char) b + ",1;", b == '0' ? NONE : 22);
            faultOf(ONE + ONE + "h1," + (char) b + ";", b == '0' ? NONE : 22);
        }
        faultOf("t,1;", 0);
        faultOf("t1,;", 0);
        faultOf("t08,00;", NONE);
        faultOf("t000,1;", 0);
        faultOf("t1,001;", 0);
        faultOf("t-0,1;", 0);
        faultOf("t+0,1;", 0);
        faultOf("i00,01,00,00,00;", NONE);
        faultOf("i0,1,0,000,0;", 0);
        // A number that ends with the text has no ; behind it.
        faultOf("t0,1;t1", 5);
        faultOf("t0,1;t1,", 5);
        faultOf("t0,1;t1,1", 5);
        faultOf("t0,1;t1,11", 5);
    }

    private static void tongues() {
        Boundaries.of(4, "TONGUE B (0 to 8 each", () -> {
            for (int a = 0; a < 100; a++) {
                faultOf("t" + a + ",0;", a <= 8 ? NONE : 0);
                faultOf("t0," + a + ";", a <= 8 ? NONE : 0);
            }
            // Alike ones are not ruled out here.
            faultOf("t0,0;t8,8;", NONE);
        });
        Boundaries.of(5, "0, 1 without", () -> {
            MouthsToJudge court = Boundaries.laid("t8,7;" + ONE);
            due("count(6)", court.count(6), 8);
            due("count(7)", court.count(7), 7);
            court.wipe();
            Boundaries.write(court, ONE);
            due("lay()", court.lay(), 1);
            due("count(6)", court.count(6), 0);
            due("count(7)", court.count(7), 1);
            // Nor do those count that were told two courts ago, or in a text at fault.
            due("lay()", court.lay(), 1);
            due("count(6)", court.count(6), 0);
            due("count(7)", court.count(7), 1);
            Boundaries.write(court, "t6,6;x");
            due("fault()", court.fault(), 16);
            due("lay()", court.lay(), NO);
            court.wipe();
            Boundaries.write(court, ONE);
            due("lay()", court.lay(), 1);
            due("count(6)", court.count(6), 0);
            due("count(7)", court.count(7), 1);
        });
        Boundaries.of(5, "of several such the last one counts", () -> {
            MouthsToJudge court = Boundaries.laid("t3,4;t5,6;" + ONE);
            due("count(6)", court.count(6), 5);
            due("count(7)", court.count(7), 6);
            MouthsToJudge last = Boundaries.laid("t3,4;" + ONE + "t0,1;t8,8;");
            due("count(6)", last.count(6), 8);
            due("count(7)", last.count(7), 8);
            // The last one at the end of 200 bytes.
            MouthsToJudge full = Boundaries.laid("i0,1,0,10,10;" + "i0,1,0,1,10;"
                + "t0,1;".repeat(34) + "t2,3;");
            due("count(5)", full.count(5), 200);
            due("count(6)", full.count(6), 2);
            due("count(7)", full.count(7), 3);
        });
    }

    private static void interpreters() {
        Boundaries.of(4, "TONGUES A and B (0 to 8, unlike)", () -> {
            for (int a = 0; a < 100; a++) {
                faultOf("i" + a + ",7,0,0,0;", a <= 8 && a != 7 ? NONE : 0);
                faultOf("i7," + a + ",0,0,0;", a <= 8 && a != 7 ? NONE : 0);
            }
            for (int a = 0; a <= 8; a++) {
                faultOf("i" + a + "," + a + ",0,0,0;", 0);
                faultOf("i" + a + ",0" + a + ",0,0,0;", 0);
            }
        });
        Boundaries.of(4, "of KIND K (0 FAITHFUL, 1 POLITE, 2 SWEARING, 3 PLAIN-SPOKEN, 4 CONTRARY,"
            + " 5 EAGER)", () -> eachValue("i0,1,%d,0,0;", 5));
        Boundaries.of(4, "of SKILL S (0 to 10)", () -> eachValue("i0,1,0,%d,0;", 10));
        Boundaries.of(4, "of PRICE P (0 to 99)", () -> {
            eachValue("i0,1,0,0,%d;", 99);
            faultOf("i0,1,0,0,100;", 0);
        });
        Boundaries.of(4, "7 at most, 0, 1, ..", () -> {
            for (int many = 1; many <= 7; many++) {
                faultOf(ONE.repeat(many), NONE);
                due("lay() of " + many, Boundaries.written(ONE.repeat(many)).lay(), many);
            }
            faultOf(SEVEN + ONE, 77);
            faultOf(SEVEN + "t0,1;" + ONE, 82);
            faultOf(SEVEN + "h0,1;" + ONE + ONE, 82);
            due("lay() of 8", Boundaries.written(SEVEN + ONE).lay(), NO);
            StringBuilder text = new StringBuilder();
            for (int i = 0; i < 7; i++) {
                text.append("i0,1,0,0,").append(10 + i).append(";t0,1;");
            }
            MouthsToJudge court = Boundaries.laid(text.toString());
            for (int i = 0; i < 7; i++) {
                due("mouth(" + i + ", 4)", court.mouth(i, 4), 10 + i);
            }
        });
    }

    private static void eachValue(String item, int most) {
        for (int value = 0; value < 100; value++) {
            faultOf(String.format(item, value), value <= most ? NONE : 0);
        }
    }

    private static void hates() {
        Boundaries.of(4, "INTERPRETERS I and J (told ahead", () -> {
            faultOf("h0,1;", 0);
            faultOf("h0,1;" + ONE + ONE, 0);
            faultOf(ONE + "h0,1;" + ONE, 11);
            faultOf(ONE + "h1,0;" + ONE, 11);
            faultOf(ONE + ONE + "h0,1;" + ONE, NONE);
            for (int i = 0; i < 100; i++) {
                faultOf(ONE.repeat(3) + "h" + i + ",0;", i == 1 || i == 2 ? NONE : 33);
                faultOf(ONE.repeat(3) + "h0," + i + ";", i == 1 || i == 2 ? NONE : 33);
            }
            faultOf(SEVEN + "h6,5;h5,6;h0,6;", NONE);
            faultOf(SEVEN + "h6,7;", 77);
        });
        Boundaries.of(4, "unlike) HATE", () -> {
            for (int i = 0; i < 7; i++) {
                faultOf(SEVEN + "h" + i + "," + i + ";", 77);
                faultOf(SEVEN + "h" + i + ",0" + i + ";", 77);
            }
        });
        Boundaries.of(5, "HATE one another", () -> {
            // 0 then 1 is the only way from 0 to 2; 1 then 0 that from 2 to 0.
            String forth = "t0,2;i0,1,0,9,0;i1,2,0,9,0;";
            String back = "t2,0;i0,1,0,9,0;i1,2,0,9,0;";
            due("best(7, -1)", Boundaries.laid(forth).best(7, -1), 2);
            due("best(7, -1)", Boundaries.laid(back).best(7, -1), 2);
            for (String hate : new String[] {"h0,1;", "h1,0;", "h0,1;h0,1;", "h0,1;h1,0;"}) {
                due("best(7, -1)", Boundaries.laid(forth + hate).best(7, -1), NONE);
                due("best(7, -1)", Boundaries.laid(back + hate).best(7, -1), NONE);
            }
            // Each of those whom one hates, whichever was told last.
            String more = "i1,2,0,9,0;";
            due("best(7, 1)", Boundaries.laid(forth + more + "h0,1;").best(7, 1), 2);
            due("best(7, 1)", Boundaries.laid(forth + more + "h2,0;").best(7, 1), 1);
            due("best(7, 1)", Boundaries.laid(forth + more + "h0,1;h0,2;").best(7, 1), NONE);
            due("best(7, 1)", Boundaries.laid(forth + more + "h2,0;h1,0;").best(7, 1), NONE);
            due("best(7, 1)", Boundaries.laid(forth + more + "h1,0;h1,2;h0,2;").best(7, 1), NONE);
        });
        Boundaries.of(5, "LAID: how many INTERPRETERS", () -> {
            // Who hated whom at another court, or in a text at fault, does not hate here.
            String forth = "t0,2;i0,1,0,9,0;i1,2,0,9,0;";
            MouthsToJudge court = Boundaries.laid(forth + "h0,1;");
            due("best(7, -1)", court.best(7, -1), NONE);
            court.wipe();
            Boundaries.write(court, forth);
            for (int k = 0; k < 3; k++) {
                due("lay()", court.lay(), 2);
                due("best(7, -1)", court.best(7, -1), 2);
            }
            Boundaries.write(court, "h0,1;x");
            due("lay()", court.lay(), NO);
            due("best(7, -1)", court.best(7, -1), 2);
            court.wipe();
            Boundaries.write(court, forth);
            due("lay()", court.lay(), 2);
            due("best(7, -1)", court.best(7, -1), 2);
        });
    }

    private static void faults() {
        Boundaries.of(4, "FAULT: the place (from 0 on)", () -> {
            faultOf("x", 0);
            faultOf("x".repeat(200), 0);
            faultOf("t0,1;x", 5);
            faultOf("t0,1;".repeat(39) + "t0,1,", 195);
            faultOf("t0,1;".repeat(39) + "t0,1;", NONE);
            // The last of 200 bytes alone is at fault.
            faultOf("i0,1,0,1,1;".repeat(4) + "t0,1;".repeat(31) + "t", 199);
        });
        Boundaries.of(4, "of the first byte of the first ITEM that is not so", () -> {
            faultOf("t0,1;t9,1;t0,1;t0,9;", 5);
            faultOf("t0,1;t0,9;x", 5);
            faultOf("t0,1;i0,1,0,1,1x;", 5);
            faultOf("t0,1;i0,1,0,11,1;", 5);
            faultOf(ONE + "i0,1,6,1,1;h0,1;", 11);
            // One that is at fault is no INTERPRETER that is told.
            faultOf("i0,0,0,0,0;" + ONE + "h0,1;", 0);
        });
        Boundaries.of(4, "NONE.", () -> {
            faultOf("", NONE);
            faultOf("t0,1;", NONE);
            faultOf(ONE, NONE);
            faultOf(SEVEN + "h0,1;t0,1;", NONE);
            Boundaries.leavesAll("fault()", () -> Boundaries.written(SEVEN + "t5,6;"),
                court -> court.fault(), NONE);
            Boundaries.leavesAll("fault()", TextBoundariesTest::busy, court -> court.fault(), 5);
        });
    }

    /** Two kept, a chain, a sentence, what can be undone, and a text that is at fault. */
    private static MouthsToJudge busy() {
        MouthsToJudge court = Boundaries.laid("t0,3;" + SEVEN, 6, 1);
        Boundaries.speak(court, 4, 2);
        court.keep();
        court.unseat();
        Boundaries.speak(court, 9);
        court.keep();
        Boundaries.seat(court, 3, 5);
        court.wipe();
        Boundaries.write(court, "t7,7;i0,9,0,0,0;");
        return court;
    }

    // ---- promise 5

    private static void laying() {
        Boundaries.of(5, "LAID is a TEXT without FAULT", () -> {
            Boundaries.leavesAll("lay()", TextBoundariesTest::busy, court -> court.lay(), NO);
            due("lay()", Boundaries.written(ONE + "x").lay(), NO);
            due("lay()", Boundaries.written("x" + ONE).lay(), NO);
            due("lay()", Boundaries.written(ONE + "t0,1").lay(), NO);
        });
        Boundaries.of(5, "of an INTERPRETER at least (NO else", () -> {
            due("lay() of nothing", new MouthsToJudge().lay(), NO);
            Boundaries.leavesAll("lay() of t5,6;", () -> Boundaries.written("t5,6;"),
                court -> court.lay(), NO);
            due("lay() of one", Boundaries.written(ONE).lay(), 1);
            // One that was laid ahead does not count for the next text.
            MouthsToJudge court = Boundaries.laid(SEVEN);
            court.wipe();
            Boundaries.write(court, "t5,6;");
            due("lay()", court.lay(), NO);
            due("count(0)", court.count(0), 7);
            due("count(6)", court.count(6), 0);
        });
        Boundaries.of(5, "how many INTERPRETERS", () -> {
            MouthsToJudge court = Boundaries.written(SEVEN);
            due("lay()", court.lay(), 7);
            court.wipe();
            Boundaries.write(court, "i2,3,4,5,6;");
            due("lay()", court.lay(), 1);
            due("mouth(1, 0)", court.mouth(1, 0), BAD);
            due("seat(1)", court.seat(1), BAD);
            due("mouth(0, 0)", court.mouth(0, 0), 2);
        });
        Boundaries.of(5, "no CHAIN, no SENTENCE, nothing to be UNDONE, kept", () -> {
            MouthsToJudge court = Boundaries.laid(SEVEN, 0, 1, 2);
            Boundaries.speak(court, 1, 2, 3);
            court.keep();
            court.keep();
            due("lay()", court.lay(), 7);
            Boundaries.chainIs(court);
            Boundaries.sentenceIs(court);
            due("count(3)", court.count(3), 0);
            due("undo()", court.undo(), NO);
            due("count(4)", court.count(4), 0);
            due("again()", court.again(), NO);
            due("seat(0)", court.seat(0), 1);
            due("keep()", court.keep(), 1);
        });
        Boundaries.of(5, "THE TEXT stays", () -> {
            MouthsToJudge court = Boundaries.laid("t2,3;" + ONE);
            due("count(5)", court.count(5), 16);
            due("lay()", court.lay(), 1);
            Boundaries.write(court, ONE);
            due("lay()", court.lay(), 2);
            due("count(6)", court.count(6), 2);
            due("wipe()", court.wipe(), 27);
            MouthsToJudge refused = Boundaries.written("t2,3;");
            due("lay()", refused.lay(), NO);
            due("wipe()", refused.wipe(), 5);
        });
    }

    // ---- promises 6 and 7

    private static void mouths() {
        Boundaries.of(6, "Of an INTERPRETER", () -> {
            for (int many = 1; many <= 7; many++) {
                MouthsToJudge court = Boundaries.laid(ONE.repeat(many));
                due("mouth(" + (many - 1) + ", 3)", court.mouth(many - 1, 3), 1);
                for (int i = many; i <= 8; i++) {
                    due("mouth(" + i + ", 3)", court.mouth(i, 3), BAD);
                }
                due("mouth(-1, 3)", court.mouth(-1, 3), BAD);
                for (int i : Boundaries.FAR) {
                    due("mouth(" + i + ", 3)", court.mouth(i, 3), BAD);
                }
            }
        });
        Boundaries.of(6, "TONGUES (what = 0, 1), KIND (2), SKILL (3), PRICE (4).", () -> {
            String least = "i0,8,0,0,0;";
            String most = "i8,0,5,10,99;";
            MouthsToJudge court = Boundaries.laid(least.repeat(3) + most + least.repeat(2) + most);
            int[] low = {0, 8, 0, 0, 0};
            int[] high = {8, 0, 5, 10, 99};
            for (int i = 0; i < 7; i++) {
                int[] traits = i == 3 || i == 6 ? high : low;
                for (int what = 0; what < 5; what++) {
                    due("mouth(" + i + ", " + what + ")", court.mouth(i, what), traits[what]);
                }
                due("mouth(" + i + ", 5)", court.mouth(i, 5), BAD);
                due("mouth(" + i + ", -1)", court.mouth(i, -1), BAD);
            }
            for (int what : Boundaries.FAR) {
                due("mouth(0, " + what + ")", court.mouth(0, what), BAD);
            }
            due("mouth(7, 5)", court.mouth(7, 5), BAD);
        });
    }

    private static void kinds() {
        Boundaries.of(7, "What a KIND (0 to 5) makes of a SENSE. BAD.", () -> {
            MouthsToJudge court = new MouthsToJudge();
            due("makes(0, 0)", court.makes(0, 0), 0);
            due("makes(5, 9)", court.makes(5, 9), 9);
            for (int s = 0; s < 10; s++) {
                due("makes(-1, " + s + ")", court.makes(-1, s), BAD);
                due("makes(6, " + s + ")", court.makes(6, s), BAD);
            }
            for (int kind = 0; kind < 6; kind++) {
                due("makes(" + kind + ", -1)", court.makes(kind, -1), BAD);
                due("makes(" + kind + ", 10)", court.makes(kind, 10), BAD);
            }
            for (int n : Boundaries.FAR) {
                due("makes(" + n + ", 0)", court.makes(n, 0), BAD);
                due("makes(0, " + n + ")", court.makes(0, n), BAD);
                due("makes(" + n + ", " + n + ")", court.makes(n, n), BAD);
            }
        });
        Boundaries.of(7, "FAITHFUL itself", () -> kind(0, "0123456789"));
        Boundaries.of(7, "POLITE of NO PERHAPS", () -> kind(1, "0133456789"));
        Boundaries.of(7, "SWEARING of an OATH the next one (7 stays)", () -> kind(2, "0123567789"));
        Boundaries.of(7, "PLAIN-SPOKEN of a PROVERB a SHEEP", () -> kind(3, "0123456799"));
        Boundaries.of(7, "CONTRARY of YES NO, of NO YES", () -> kind(4, "0213456789"));
        Boundaries.of(7, "EAGER of SILENCE YES, of PERHAPS YES; all others themselves",
            () -> kind(5, "1121456789"));
    }

    private static void kind(int kind, String made) {
        // What is laid is nothing to what a KIND makes.
        MouthsToJudge court = Boundaries.laid("i0,1,4,0,0;", 0);
        for (int s = 0; s < 10; s++) {
            due("makes(" + kind + ", " + s + ")", court.makes(kind, s), made.charAt(s) - '0');
        }
    }
}
