/** The boundary cases of THE CHAIN and THE SENTENCE: promises 8 to 15. */
public final class ChainBoundariesTest {
    private static final int BAD = Boundaries.BAD, NO = Boundaries.NO, FULL = Boundaries.FULL,
        NONE = Boundaries.NONE;
    private static final String SEVEN = "i0,1,0,1,1;".repeat(7);

    public static void main(String[] args) {
        seating();
        unseating();
        undoing();
        undoingTheLastEight();
        asking();
        judging();
        speaking();
        saying();
        Boundaries.end();
    }

    private static void due(String call, long got, long want) {
        Boundaries.due(call, got, want);
    }

    // ---- promise 8

    private static void seating() {
        Boundaries.of(8, "An INTERPRETER is seated: how many are.", () -> {
            MouthsToJudge court = Boundaries.laid(SEVEN);
            int[] row = {6, 0, 5, 1, 4, 2, 3};
            for (int k = 0; k < 7; k++) {
                due("seat(" + row[k] + ")", court.seat(row[k]), k + 1);
            }
            Boundaries.chainIs(court, row);
        });
        Boundaries.of(8, "one is seated behind the last one", () -> {
            MouthsToJudge court = Boundaries.laid(SEVEN, 3, 1, 5);
            court.unseat();
            due("seat(0)", court.seat(0), 3);
            Boundaries.chainIs(court, 3, 1, 0);
        });
        Boundaries.of(8, "BAD; NO: he is seated.", () -> {
            for (int i : new int[] {2, 6, 4}) {
                Boundaries.leavesAll("seat(" + i + ")", () -> Boundaries.laid(SEVEN, 2, 6, 4),
                    court -> court.seat(i), NO);
            }
            for (int i : new int[] {-1, 7, 8, 32, 64}) {
                Boundaries.leavesAll("seat(" + i + ")", () -> Boundaries.laid(SEVEN, 2, 6, 4),
                    court -> court.seat(i), BAD);
            }
            for (int i : Boundaries.FAR) {
                Boundaries.leavesAll("seat(" + i + ")", () -> Boundaries.laid(SEVEN, 2, 6, 4),
                    court -> court.seat(i), BAD);
            }
        });
        Boundaries.of(8, "(INTERPRETERS: such as there are)", () -> {
            for (int many = 1; many <= 7; many++) {
                MouthsToJudge court = Boundaries.laid("i0,1,0,1,1;".repeat(many));
                due("seat(" + many + ")", court.seat(many), BAD);
                due("seat(" + (many - 1) + ")", court.seat(many - 1), 1);
            }
            due("seat(1) at first", new MouthsToJudge().seat(1), BAD);
        });
        Boundaries.of(8, "THE CHAIN is a row of unlike INTERPRETERS", () -> {
            // All seven at once, so that an eighth is always one who is seated.
            MouthsToJudge court = Boundaries.laid(SEVEN, 0, 1, 2, 3, 4, 5, 6);
            for (int i = 0; i < 7; i++) {
                due("seat(" + i + ")", court.seat(i), NO);
            }
            due("unseat()", court.unseat(), 6);
            due("seat(5)", court.seat(5), NO);
            due("seat(6)", court.seat(6), 7);
        });
        Boundaries.of(8, "HATE one another", () -> {
            // Neither who HATES nor who can't go on is kept from a seat.
            MouthsToJudge court = Boundaries.laid("t4,5;i0,1,0,1,1;i2,3,0,1,1;h0,1;");
            due("seat(0)", court.seat(0), 1);
            due("seat(1)", court.seat(1), 2);
        });
    }

    // ---- promise 9

    private static void unseating() {
        Boundaries.of(9, "The last one is unseated: who.", () -> {
            MouthsToJudge court = Boundaries.laid(SEVEN, 6, 0, 5, 1, 4, 2, 3);
            int[] who = {3, 2, 4, 1, 5, 0, 6};
            for (int k = 0; k < 7; k++) {
                due("unseat()", court.unseat(), who[k]);
                due("count(1)", court.count(1), 6 - k);
                due("chain(" + (6 - k) + ")", court.chain(6 - k), NONE);
            }
        });
        Boundaries.of(9, "NO: none is.", () -> {
            due("unseat() at first", new MouthsToJudge().unseat(), NO);
            Boundaries.leavesAll("unseat()", () -> {
                MouthsToJudge court = Boundaries.laid(SEVEN, 4);
                court.keep();
                court.unseat();
                return court;
            }, court -> court.unseat(), NO);
        });
    }

    // ---- promise 10

    private static void undoing() {
        Boundaries.of(10, "UNDONE is the latest of these", () -> {
            MouthsToJudge court = Boundaries.laid(SEVEN, 3, 5);
            due("unseat()", court.unseat(), 5);
            due("undo() of an unseating", court.undo(), 2);
            Boundaries.chainIs(court, 3, 5);
            due("seat(5)", court.seat(5), NO);
            due("undo() of a seating", court.undo(), 1);
            Boundaries.chainIs(court, 3);
            due("seat(5)", court.seat(5), 2);
            due("undo()", court.undo(), 1);
            due("undo() of the first seating", court.undo(), 0);
            Boundaries.chainIs(court);
        });
        Boundaries.of(10, "how many more can be", () -> {
            MouthsToJudge court = Boundaries.laid(SEVEN, 0, 1, 2, 3, 4, 5, 6);
            for (int k = 6; k >= 0; k--) {
                due("count(3)", court.count(3), k + 1);
                due("undo()", court.undo(), k);
                due("count(1)", court.count(1), k);
            }
        });
        Boundaries.of(10, "NO.", () -> {
            due("undo() at first", new MouthsToJudge().undo(), NO);
            Boundaries.leavesAll("undo()", () -> {
                MouthsToJudge court = Boundaries.laid(SEVEN, 2, 4);
                court.keep();
                court.again();
                court.keep();
                Boundaries.speak(court, 1);
                return court;
            }, court -> court.undo(), NO);
        });
        Boundaries.of(10, "the latest of these", () -> {
            // Words, what is kept, a wiped text and what was refused are none of these.
            MouthsToJudge court = Boundaries.laid(SEVEN, 2, 4);
            Boundaries.speak(court, 1, 2);
            court.silence();
            Boundaries.speak(court, 3);
            court.keep();
            court.wipe();
            court.write(1, 'x');
            court.lay();
            court.seat(4);
            court.seat(7);
            due("count(3)", court.count(3), 2);
            due("undo()", court.undo(), 1);
            Boundaries.chainIs(court, 2);
            Boundaries.sentenceIs(court, 3);
            due("count(4)", court.count(4), 1);
            due("count(5)", court.count(5), 1);
            due("undo()", court.undo(), 0);
            due("unseat()", court.unseat(), NO);
            due("count(3)", court.count(3), 0);
        });
    }

    private static void undoingTheLastEight() {
        Boundaries.of(10, "(the last 8 can be)", () -> {
            MouthsToJudge court = Boundaries.laid(SEVEN, 0, 1, 2, 3, 4, 5, 6);
            court.unseat();
            due("count(3) of 8", court.count(3), 8);
            court.unseat();
            due("count(3) of 9", court.count(3), 8);
            int[] seated = {6, 7, 6, 5, 4, 3, 2, 1};
            for (int k = 0; k < 8; k++) {
                due("undo()", court.undo(), 7 - k);
                due("count(1)", court.count(1), seated[k]);
            }
            due("undo() of a ninth", court.undo(), NO);
            Boundaries.chainIs(court, 0);
        });
        Boundaries.of(10, "(the last 8 can be)", () -> {
            // Eight are all undone, down to none that is seated.
            MouthsToJudge court = Boundaries.laid(SEVEN, 0, 1, 2, 3, 4, 5, 6);
            court.unseat();
            for (int k = 7; k >= 0; k--) {
                due("undo()", court.undo(), k);
            }
            Boundaries.chainIs(court);
            due("undo()", court.undo(), NO);
        });
        Boundaries.of(10, "(the last 8 can be)", ChainBoundariesTest::undoBehindManySteps);
    }

    /** Sixty steps, of which the last eight are seen one by one as they are undone. */
    private static void undoBehindManySteps() {
        MouthsToJudge turns = Boundaries.laid(SEVEN);
        for (int turn = 0; turn < 30; turn++) {
            due("seat", turns.seat(turn % 7), 1);
            due("unseat()", turns.unseat(), turn % 7);
            due("count(3)", turns.count(3), Math.min(8, 2 * turn + 2));
        }
        for (int turn = 29; turn >= 26; turn--) {
            due("undo()", turns.undo(), 2 * (turn - 26) + 1);
            Boundaries.chainIs(turns, turn % 7);
            due("undo()", turns.undo(), 2 * (turn - 26));
            Boundaries.chainIs(turns);
        }
        due("undo()", turns.undo(), NO);
    }

    // ---- promise 11

    private static void asking() {
        Boundaries.of(11, "The k-th of THE CHAIN. NONE; BAD (k below 0).", () -> {
            MouthsToJudge court = Boundaries.laid(SEVEN);
            due("chain(0) of none", court.chain(0), NONE);
            due("chain(-1) of none", court.chain(-1), BAD);
            for (int k = 0; k < 7; k++) {
                court.seat(6 - k);
                due("chain(0)", court.chain(0), 6);
                due("chain(" + k + ")", court.chain(k), 6 - k);
                due("chain(" + (k + 1) + ")", court.chain(k + 1), NONE);
                due("chain(-1)", court.chain(-1), BAD);
            }
            due("chain(8)", court.chain(8), NONE);
            due("chain(max)", court.chain(Integer.MAX_VALUE), NONE);
            due("chain(min)", court.chain(Integer.MIN_VALUE), BAD);
            // One who was unseated is not told any more.
            court.unseat();
            due("chain(6)", court.chain(6), NONE);
        });
    }

    // ---- promise 12

    private static void judging() {
        Boundaries.of(12, "the place of the first who does not know it", () -> {
            String way = "t0,7;i0,1,0,0,0;i2,1,0,0,0;i2,3,0,0,0;i4,3,0,0,0;i4,5,0,0,0;i6,5,0,0,0;"
                + "i8,7,0,0,0;";
            due("the first can't", Boundaries.laid(way, 1, 0).judged(), 0);
            due("the second can't", Boundaries.laid(way, 0, 2).judged(), 1);
            due("the last can't", Boundaries.laid(way, 0, 1, 2, 3, 4, 5, 6).judged(), 6);
            // The third can't, the fourth could not either.
            due("of two the first", Boundaries.laid(way, 0, 1, 4, 6).judged(), 2);
            // He knows the tongue of who speaks, but it is another one by then.
            due("by then", Boundaries.laid("t0,1;i0,1,0,0,0;i0,2,0,0,0;", 0, 1).judged(), 1);
            // The judge's tongue is come to, then lost again.
            due("past it", Boundaries.laid("t0,1;i0,1,0,0,0;i2,3,0,0,0;", 0, 1).judged(), 1);
        });
        Boundaries.of(12, "behind each INTERPRETER, who has to know it, his other one", () -> {
            due("A to B", Boundaries.laid("t0,8;i0,8,0,0,0;", 0).judged(), NONE);
            due("B to A", Boundaries.laid("t8,0;i0,8,0,0,0;", 0).judged(), NONE);
            due("A to B", Boundaries.laid("t8,0;i8,0,0,0,0;", 0).judged(), NONE);
        });
        Boundaries.of(12, "how many there are, if all do, but the last TONGUE is not the judge's",
            () -> {
                due("none is seated", Boundaries.laid("t0,1;i0,1,0,0,0;").judged(), 0);
                due("one", Boundaries.laid("t0,2;i0,1,0,0,0;", 0).judged(), 1);
                due("to and fro", Boundaries.laid("t0,1;i0,1,0,0,0;i0,1,0,0,0;", 0, 1).judged(), 2);
                due("seven", Boundaries.laid("t0,0;" + SEVEN, 0, 1, 2, 3, 4, 5, 6).judged(), 7);
            });
        Boundaries.of(12, "JUDGED. NONE.", () -> {
            due("none has to be", Boundaries.laid("t4,4;i0,1,0,0,0;").judged(), NONE);
            due("one", Boundaries.laid("t0,1;i0,1,0,0,0;", 0).judged(), NONE);
            due("two", Boundaries.laid("t0,0;i0,1,0,0,0;i1,0,0,0,0;", 0, 1).judged(), NONE);
            due("seven", Boundaries.laid("t0,1;" + SEVEN, 0, 1, 2, 3, 4, 5, 6).judged(), NONE);
            // Who HATES whom, and SLIPS, are nothing to it.
            due("hated", Boundaries.laid("t0,0;i0,1,0,0,0;i1,0,0,0,0;h0,1;", 0, 1).judged(), NONE);
            due("at first", new MouthsToJudge().judged(), 0);
        });
    }

    // ---- promises 13 and 14

    private static MouthsToJudge fullSentence() {
        MouthsToJudge court = Boundaries.laid("i0,1,4,1,1;", 0);
        for (int k = 0; k < 12; k++) {
            Boundaries.speak(court, (k + 3) % 10);
        }
        return court;
    }

    private static void speaking() {
        Boundaries.of(13, "THE SENTENCE is of 12 SENSES at most.", () -> {
            MouthsToJudge court = new MouthsToJudge();
            for (int k = 1; k <= 12; k++) {
                due("word(7)", court.word(7), k);
            }
            for (int s = 0; s < 10; s++) {
                due("word(" + s + ") of a thirteenth", court.word(s), FULL);
            }
            Boundaries.leavesAll("word(9)", ChainBoundariesTest::fullSentence,
                full -> full.word(9), FULL);
        });
        Boundaries.of(13, "A SENSE more in THE SENTENCE: how many.", () -> {
            MouthsToJudge court = new MouthsToJudge();
            for (int s = 0; s < 10; s++) {
                due("word(" + s + ")", court.word(s), s + 1);
            }
            Boundaries.sentenceIs(court, 0, 1, 2, 3, 4, 5, 6, 7, 8, 9);
        });
        Boundaries.of(13, "BAD; FULL.", () -> {
            for (int s : new int[] {-1, 10, Integer.MIN_VALUE, Integer.MAX_VALUE}) {
                due("word(" + s + ") of an empty one", new MouthsToJudge().word(s), BAD);
                Boundaries.leavesAll("word(" + s + ")", ChainBoundariesTest::fullSentence,
                    court -> court.word(s), BAD);
            }
        });
        Boundaries.of(14, "No SENTENCE: how many it had.", () -> {
            due("silence() of none", new MouthsToJudge().silence(), 0);
            MouthsToJudge court = fullSentence();
            court.keep();
            due("silence() of 12", court.silence(), 12);
            Boundaries.sentenceIs(court);
            due("silence() then", court.silence(), 0);
            Boundaries.chainIs(court, 0);
            due("count(3)", court.count(3), 1);
            due("count(4)", court.count(4), 1);
            for (int k = 1; k <= 12; k++) {
                due("word(4)", court.word(4), k);
            }
            due("silence()", court.silence(), 12);
            // What was kept had its sentence, and has it still.
            court.again();
            Boundaries.sentenceIs(court, 3, 4, 5, 6, 7, 8, 9, 0, 1, 2, 3, 4);
        });
    }

    // ---- promise 15

    private static MouthsToJudge sevenMouths() {
        // CONTRARY, POLITE, EAGER, SWEARING, SWEARING, PLAIN-SPOKEN, FAITHFUL; all SLIP always.
        return Boundaries.laid("t3,4;i0,1,4,0,0;i7,8,1,0,0;i0,1,5,0,0;i5,6,2,0,0;i0,1,2,0,0;"
            + "i0,1,3,0,0;i0,1,0,0,0;", 0, 1, 2, 3, 4, 5, 6);
    }

    private static void saying() {
        Boundaries.of(15, "what its i-th becomes by the first k of THE CHAIN without SLIPS"
            + " (whatever TONGUES are)", () -> {
                String[] said = {"00011111", "12311111", "21111111", "33311111", "44445666",
                    "55556777", "66667777", "77777777", "88888899", "99999999"};
                MouthsToJudge court = sevenMouths();
                for (int s = 0; s < 10; s++) {
                    court.word(s);
                    for (int k = 0; k <= 7; k++) {
                        due("said(" + s + ", " + k + ")", court.said(s, k), said[s].charAt(k) - '0');
                    }
                }
            });
        Boundaries.of(15, "the first k of THE CHAIN", () -> {
            // The first of THE CHAIN, not those of the lowest numbers.
            MouthsToJudge court = Boundaries.laid("i0,1,0,0,0;i0,1,1,0,0;i0,1,4,0,0;", 2, 0, 1);
            Boundaries.speak(court, 1, 2);
            int[][] said = {{1, 2, 2, 3}, {2, 1, 1, 1}};
            for (int i = 0; i < 2; i++) {
                for (int k = 0; k <= 3; k++) {
                    due("said(" + i + ", " + k + ")", court.said(i, k), said[i][k]);
                }
            }
        });
        Boundaries.of(15, "NONE: not so many words", () -> {
            MouthsToJudge court = sevenMouths();
            due("said(0, 0) of none", court.said(0, 0), NONE);
            for (int i = 0; i < 12; i++) {
                court.word(5);
                due("said(" + i + ", 0)", court.said(i, 0), 5);
                due("said(" + i + ", 7)", court.said(i, 7), 7);
                due("said(" + (i + 1) + ", 7)", court.said(i + 1, 7), NONE);
            }
            due("said(max, 7)", court.said(Integer.MAX_VALUE, 7), NONE);
        });
        Boundaries.of(15, "BAD (i below 0; k 0 to how many are seated)", () -> {
            MouthsToJudge court = Boundaries.laid(SEVEN);
            Boundaries.speak(court, 6);
            for (int seated = 0; seated <= 7; seated++) {
                due("said(0, " + seated + ")", court.said(0, seated), 6);
                due("said(0, " + (seated + 1) + ")", court.said(0, seated + 1), BAD);
                due("said(1, " + (seated + 1) + ")", court.said(1, seated + 1), BAD);
                due("said(0, -1)", court.said(0, -1), BAD);
                due("said(1, -1)", court.said(1, -1), BAD);
                due("said(-1, 0)", court.said(-1, 0), BAD);
                due("said(-1, -1)", court.said(-1, -1), BAD);
                court.seat(seated);
            }
            for (int n : Boundaries.FAR) {
                due("said(0, " + n + ")", court.said(0, n), BAD);
                due("said(" + n + ", 0)", court.said(n, 0), n < 0 ? BAD : NONE);
                due("said(" + n + ", " + n + ")", court.said(n, n), BAD);
            }
        });
    }
}
