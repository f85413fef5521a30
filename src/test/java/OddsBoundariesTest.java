/** The boundary cases of odds and of the best: promises 16 to 21. */
public final class OddsBoundariesTest {
    private static final int BAD = Boundaries.BAD, NONE = Boundaries.NONE;
    private static final int[] ALL = {0, 1, 2, 3, 4, 5, 6};

    public static void main(String[] args) {
        slips();
        coming();
        wasAtFirst();
        comingBack();
        bestRows();
        bestAmongEquals();
        bestOfLengths();
        bestAnswers();
        bribing();
        bribingAmongEquals();
        passingBy();
        Boundaries.end();
    }

    private static void due(String call, long got, long want) {
        Boundaries.due(call, got, want);
    }

    private static void comes(MouthsToJudge court, int s, int t, long above, long below) {
        Boundaries.fraction("comes(" + s + ", " + t + ")", court.comes(s, t, 0),
            court.comes(s, t, 1), above, below);
    }

    private static void was(MouthsToJudge court, int s, int t, long above, long below) {
        Boundaries.fraction("was(" + s + ", " + t + ")", court.was(s, t, 0), court.was(s, t, 1),
            above, below);
    }

    private static void back(MouthsToJudge court, int s, long above, long below) {
        Boundaries.fraction("back(" + s + ")", court.back(s, 0), court.back(s, 1), above, below);
    }

    private static String seven(int kind, int skill) {
        return ("i0,1," + kind + "," + skill + ",1;").repeat(7);
    }

    // ---- promise 16

    private static void slips() {
        Boundaries.of(16, "of ten times he SLIPS 10 less SKILL", () -> {
            int[] above = {0, 1, 1, 3, 2, 1, 3, 7, 4, 9, 1};
            int[] below = {1, 10, 5, 10, 5, 2, 5, 10, 5, 10, 1};
            for (int skill = 0; skill <= 10; skill++) {
                MouthsToJudge court = Boundaries.laid("i0,1,0," + skill + ",0;", 0);
                comes(court, 5, 5, above[skill], below[skill]);
                comes(court, 5, 6, below[skill] - above[skill], below[skill]);
                comes(court, 5, 4, 0, 1);
                comes(court, 5, 7, 0, 1);
            }
        });
        Boundaries.of(16, "he says the next one (behind 9 comes 0) of that", () -> {
            // SKILL 0: the next one of what his KIND makes of it.
            String[] slipped = {"1234567890", "1244567890", "1234678890", "1234567800",
                "1324567890", "2232567890"};
            for (int kind = 0; kind < 6; kind++) {
                MouthsToJudge court = Boundaries.laid("i0,1," + kind + ",0,0;", 0);
                for (int s = 0; s < 10; s++) {
                    comes(court, s, slipped[kind].charAt(s) - '0', 1, 1);
                }
            }
            // Ten who slip would be all round; seven and three more are not.
            MouthsToJudge round = Boundaries.laid(seven(0, 0), ALL);
            for (int s = 0; s < 10; s++) {
                comes(round, s, (s + 7) % 10, 1, 1);
                comes(round, s, s, 0, 1);
            }
        });
    }

    private static void coming() {
        Boundaries.of(16, "the chance that a SENSE s becomes t by all of THE CHAIN", () -> {
            MouthsToJudge none = new MouthsToJudge();
            for (int s = 0; s < 10; s++) {
                for (int t = 0; t < 10; t++) {
                    comes(none, s, t, s == t ? 1 : 0, 1);
                }
            }
            // The order tells: POLITE, then CONTRARY.
            comes(Boundaries.laid("i0,1,1,10,0;i0,1,4,10,0;", 0, 1), 2, 3, 1, 1);
            comes(Boundaries.laid("i0,1,1,10,0;i0,1,4,10,0;", 1, 0), 2, 1, 1, 1);
            comes(Boundaries.laid("i0,1,1,10,0;i0,1,4,10,0;", 1, 0), 1, 3, 1, 1);
            // TONGUES that lack something change nothing.
            comes(Boundaries.laid("t8,8;i0,1,0,9,0;i3,4,0,9,0;", 0, 1), 4, 4, 81, 100);
        });
        Boundaries.of(16, "All in lowest terms.", () -> {
            MouthsToJudge longest = Boundaries.laid(seven(0, 9), ALL);
            comes(longest, 3, 3, 4782969, 10000000);
            comes(longest, 3, 0, 1, 10000000);
            comes(longest, 3, 1, 0, 1);
            MouthsToJudge half = Boundaries.laid(seven(0, 5), ALL);
            comes(half, 9, 9, 1, 128);
            comes(half, 9, 2, 35, 128);
            MouthsToJudge sure = Boundaries.laid(seven(0, 10), ALL);
            comes(sure, 9, 9, 1, 1);
            comes(sure, 9, 0, 0, 1);
        });
        Boundaries.of(16, "COMES: above (part = 0), below (1). BAD.", () -> {
            MouthsToJudge court = Boundaries.laid("i0,1,0,9,0;", 0);
            comes(court, 0, 0, 9, 10);
            comes(court, 9, 9, 9, 10);
            for (int n : new int[] {-1, 10, Integer.MIN_VALUE, Integer.MAX_VALUE}) {
                due("comes(" + n + ", 0, 0)", court.comes(n, 0, 0), BAD);
                due("comes(0, " + n + ", 0)", court.comes(0, n, 0), BAD);
                due("comes(" + n + ", " + n + ", " + n + ")", court.comes(n, n, n), BAD);
            }
            for (int n : new int[] {-1, 2, Integer.MIN_VALUE, Integer.MAX_VALUE}) {
                due("comes(0, 0, " + n + ")", court.comes(0, 0, n), BAD);
            }
            Boundaries.leavesAll("comes(4, 4, 1)", OddsBoundariesTest::busy,
                busy -> busy.comes(4, 4, 1), 10);
        });
    }

    /** A chain of one of SKILL 9, a sentence, and one kept. */
    private static MouthsToJudge busy() {
        MouthsToJudge court = Boundaries.laid("t0,2;i0,1,0,9,7;i1,2,0,5,3;h0,1;", 0);
        Boundaries.speak(court, 2, 1);
        court.keep();
        return court;
    }

    // ---- promise 17

    private static void wasAtFirst() {
        Boundaries.of(17, "the chance that it was s, if t came, all ten SENSES being alike likely at"
            + " first", () -> {
                MouthsToJudge none = new MouthsToJudge();
                was(none, 6, 6, 1, 1);
                was(none, 6, 7, 0, 1);
                MouthsToJudge court = Boundaries.laid("i0,1,5,8,0;", 0);
                // YES comes of SILENCE, YES and PERHAPS, eight times each, and of no slip.
                was(court, 0, 1, 1, 3);
                was(court, 1, 1, 1, 3);
                was(court, 3, 1, 1, 3);
                was(court, 2, 1, 0, 1);
                // NO comes eight times of itself and twice each of these three.
                was(court, 2, 2, 4, 7);
                was(court, 0, 2, 1, 7);
                // SILENCE comes of a SHEEP's slip alone.
                was(court, 9, 0, 1, 1);
                MouthsToJudge longest = Boundaries.laid(seven(0, 9), ALL);
                was(longest, 3, 3, 4782969, 10000000);
                was(longest, 3, 0, 1, 10000000);
            });
        Boundaries.of(17, "none (t can't come)", () -> {
            MouthsToJudge court = Boundaries.laid("i0,1,1,10,0;i0,1,2,10,0;", 0);
            for (int s = 0; s < 10; s++) {
                due("was(" + s + ", 2, 0)", court.was(s, 2, 0), NONE);
                due("was(" + s + ", 2, 1)", court.was(s, 2, 1), NONE);
            }
            was(court, 2, 3, 1, 2);
            was(court, 4, 4, 1, 1);
            court.seat(1);
            due("was(4, 4, 0)", court.was(4, 4, 0), NONE);
            was(court, 4, 5, 1, 1);
            was(court, 6, 7, 1, 2);
            // SKILL 0: nothing slips to what follows on what can't come.
            MouthsToJudge never = Boundaries.laid("i0,1,3,0,0;", 0);
            due("was(8, 9, 1)", never.was(8, 9, 1), NONE);
            was(never, 8, 0, 1, 2);
        });
        Boundaries.of(17, "WAS: above (part = 0), below (1). NONE; BAD.", () -> {
            MouthsToJudge court = Boundaries.laid("i0,1,1,10,0;", 0);
            for (int n : new int[] {-1, 10, Integer.MIN_VALUE, Integer.MAX_VALUE}) {
                due("was(" + n + ", 3, 0)", court.was(n, 3, 0), BAD);
                due("was(" + n + ", 2, 0)", court.was(n, 2, 0), BAD);
                due("was(3, " + n + ", 0)", court.was(3, n, 0), BAD);
            }
            for (int n : new int[] {-1, 2, Integer.MIN_VALUE, Integer.MAX_VALUE}) {
                due("was(3, 3, " + n + ")", court.was(3, 3, n), BAD);
                due("was(3, 2, " + n + ")", court.was(3, 2, n), BAD);
            }
            was(court, 0, 0, 1, 1);
            was(court, 9, 9, 1, 1);
            Boundaries.leavesAll("was(4, 4, 1)", OddsBoundariesTest::busy,
                busy -> busy.was(4, 4, 1), 10);
        });
    }

    // ---- promise 18

    private static void comingBack() {
        Boundaries.of(18, "when it has gone through all of THE CHAIN and then through all of it from"
            + " the last to the first", () -> {
                MouthsToJudge none = new MouthsToJudge();
                for (int s = 0; s < 10; s++) {
                    back(none, s, 1, 1);
                }
                back(Boundaries.laid("i0,1,0,9,0;", 0), 5, 81, 100);
                // POLITE, CONTRARY, CONTRARY, POLITE, and the other way about.
                MouthsToJudge court = Boundaries.laid("i0,1,1,10,0;i0,1,4,10,0;", 0, 1);
                back(court, 1, 1, 1);
                back(court, 2, 0, 1);
                MouthsToJudge other = Boundaries.laid("i0,1,1,10,0;i0,1,4,10,0;", 1, 0);
                back(other, 1, 0, 1);
                back(other, 2, 1, 1);
                // Five who slip always: ten times, all round.
                back(Boundaries.laid(seven(0, 0), 0, 1, 2, 3, 4), 9, 1, 1);
                back(Boundaries.laid(seven(0, 0), 0, 1, 2, 3), 9, 0, 1);
                back(Boundaries.laid(seven(0, 0), ALL), 9, 0, 1);
            });
        Boundaries.of(18, "long back(int s, int part)", () -> {
            // Fourteen mouths: ten to the fourteenth is beyond an int.
            long ways = 1;
            for (int k = 0; k < 14; k++) {
                ways *= 7;
            }
            // Or ten of fourteen slip: 1001 times three to the tenth, seven to the fourth.
            ways += 1001L * 59049 * 2401;
            MouthsToJudge court = Boundaries.laid(seven(0, 7), ALL);
            long shared = 1;
            for (long d : new long[] {2, 5}) {
                for (int k = 0; k < 14 && ways / shared % d == 0; k++) {
                    shared *= d;
                }
            }
            back(court, 5, ways / shared, 100000000000000L / shared);
            Boundaries.holds("below is beyond an int",
                100000000000000L / shared > Integer.MAX_VALUE);
        });
        Boundaries.of(18, "All in lowest terms.", () -> {
            back(Boundaries.laid(seven(0, 5), ALL), 0, 1002 / 2, 16384 / 2);
            back(Boundaries.laid(seven(0, 10), ALL), 0, 1, 1);
            back(Boundaries.laid("i0,1,0,8,0;", 0), 0, 16, 25);
        });
        Boundaries.of(18, "BACK: above (part = 0), below (1). BAD.", () -> {
            MouthsToJudge court = Boundaries.laid("i0,1,0,9,0;", 0);
            back(court, 0, 81, 100);
            back(court, 9, 81, 100);
            for (int n : new int[] {-1, 10, Integer.MIN_VALUE, Integer.MAX_VALUE}) {
                due("back(" + n + ", 0)", court.back(n, 0), BAD);
                due("back(" + n + ", " + n + ")", court.back(n, n), BAD);
            }
            for (int n : new int[] {-1, 2, Integer.MIN_VALUE, Integer.MAX_VALUE}) {
                due("back(0, " + n + ")", court.back(0, n), BAD);
            }
            Boundaries.leavesAll("back(4, 1)", OddsBoundariesTest::busy, busy -> busy.back(4, 1),
                100);
        });
    }

    // ---- promise 19

    private static void best(MouthsToJudge court, int m, int... row) {
        due("best(" + m + ", -1)", court.best(m, -1), row.length == 0 ? NONE : row.length);
        for (int i = 0; i < 8; i++) {
            due("best(" + m + ", " + i + ")", court.best(m, i), i < row.length ? row[i] : NONE);
        }
    }

    private static void best(String text, int m, int... row) {
        best(Boundaries.laid(text), m, row);
    }

    private static void bestRows() {
        Boundaries.of(19, "of all rows of 1 to m (1 to 7)", () -> {
            MouthsToJudge court = Boundaries.laid("t0,1;i0,1,0,10,0;");
            for (int m = 1; m <= 7; m++) {
                best(court, m, 0);
            }
            for (int m : new int[] {0, 8, -1, Integer.MIN_VALUE, Integer.MAX_VALUE}) {
                due("best(" + m + ", -1)", court.best(m, -1), BAD);
                due("best(" + m + ", 0)", court.best(m, 0), BAD);
            }
            // Only a row of all seven goes through.
            String way = "t0,7;i0,1,0,9,0;i1,2,0,9,0;i2,3,0,9,0;i3,4,0,9,0;i4,5,0,9,0;i5,6,0,9,0;"
                + "i6,7,0,9,0;";
            for (int m = 1; m <= 6; m++) {
                best(way, m);
            }
            best(way, 7, ALL);
            // Longer rows keep more, as far as m lets them.
            String more = "t0,3;i0,3,0,1,0;i0,1,0,6,0;i1,3,0,6,0;i1,2,0,10,0;i2,3,0,10,0;";
            best(more, 1, 0);
            best(more, 2, 1, 2);
            best(more, 3, 1, 3, 4);
            best(more, 7, 1, 3, 4);
        });
        Boundaries.of(19, "rows of 1", () -> {
            // A row of none would lack nothing and keep all, but is none.
            best("t0,0;i1,2,0,10,0;", 7);
            best("t0,0;i0,1,0,1,0;i0,1,0,1,0;", 7, 0, 1);
            best("t0,0;i0,1,0,1,0;i0,1,0,1,0;", 1);
        });
        Boundaries.of(19, "unlike INTERPRETERS", () -> {
            // To and fro by one and the same would do, but he sits once.
            best("t0,0;i0,1,0,10,0;", 7);
            best("t0,2;i0,1,0,10,0;i0,2,0,0,0;", 7, 1);
        });
        Boundaries.of(19, "that, JUDGED, lack nothing (none)", () -> {
            best("t0,2;i0,1,0,10,0;", 7);
            best("t0,1;i0,1,0,0,0;i0,2,0,10,0;", 7, 0);
            best("t2,0;i0,1,0,10,0;i1,2,0,10,0;", 7, 1, 0);
            best("t8,7;i7,8,0,10,0;", 7, 0);
            best("t0,1;i1,2,0,10,0;i2,1,0,10,0;", 7);
        });
        Boundaries.of(19, "in which nobody is next to one whom he HATES", () -> {
            String way = "t0,3;i0,1,0,10,0;i1,2,0,10,0;i2,3,0,10,0;";
            best(way, 7, 0, 1, 2);
            best(way + "h0,1;", 7);
            best(way + "h1,0;", 7);
            best(way + "h1,2;", 7);
            best(way + "h2,1;", 7);
            best(way + "h0,2;", 7, 0, 1, 2);
            // Another way round is taken, though less is kept by it.
            best(way + "i0,3,0,1,0;h1,2;", 7, 3);
            // The last and the first of seven.
            String seven = "t0,7;i0,1,0,9,0;i1,2,0,9,0;i2,3,0,9,0;i3,4,0,9,0;i4,5,0,9,0;"
                + "i5,6,0,9,0;i6,7,0,9,0;";
            best(seven + "h6,0;h0,5;h1,3;", 7, ALL);
            best(seven + "h6,5;", 7);
            // A seat at court is nothing to it, nor what is seated already.
            MouthsToJudge court = Boundaries.laid(way, 2, 0);
            best(court, 7, 0, 1, 2);
        });
    }

    private static void bestAmongEquals() {
        Boundaries.of(19, "that by which most is KEPT", () -> {
            best("t0,1;i0,1,0,8,0;i0,1,0,9,0;i0,1,0,7,0;", 7, 1);
            // What is kept is a sum over all: 10, 9 or 8 of ten senses come as themselves.
            best("t0,1;i0,1,4,10,0;i0,1,5,10,0;i0,1,1,10,0;", 1, 2);
            best("t0,1;i0,1,2,10,0;i0,1,4,10,0;", 1, 1);
            // Two CONTRARY ones keep all, as one does not.
            best("t0,0;i0,1,4,10,0;i0,1,4,10,0;i0,1,0,9,0;", 7, 0, 1);
            // A slip may keep, too: NO, turned about to YES, slips back to NO.
            best("t0,1;i0,1,0,0,0;i0,1,4,0,0;", 7, 1);
            best("t0,0;i0,1,0,0,0;i0,1,0,0,0;i0,1,4,0,0;i0,1,4,0,0;", 2, 2, 3);
            best("t0,2;i0,1,0,0,0;i1,2,0,10,0;i0,1,0,1,0;", 7, 2, 1);
        });
        Boundaries.of(19, "of several the shortest", () -> {
            best("t0,2;i0,1,0,10,0;i1,2,0,10,0;i0,2,0,10,0;", 7, 2);
            best("t0,2;i0,1,0,9,0;i1,2,0,10,0;i0,2,0,9,0;", 7, 2);
            best("t0,1;i0,1,0,10,0;i0,1,0,10,0;i0,1,0,10,0;", 7, 0);
            // Nothing is kept by any: the shortest, even so.
            best("t0,2;i0,1,0,0,0;i1,2,0,0,0;i0,2,0,0,0;", 7, 2);
            // 9 of 10 is more than 89 of 100, and as much as 90 of 100.
            best("t0,2;i0,2,0,9,0;i0,1,0,10,0;i1,2,0,9,0;", 7, 0);
        });
        Boundaries.of(19, "then the first (by the first INTERPRETER, then the second, ..)", () -> {
            best("t0,1;i0,1,0,9,0;i0,1,0,9,0;i1,0,0,9,0;", 7, 0);
            best("t0,1;i2,3,0,9,0;i0,1,0,8,0;i1,0,0,9,0;i0,1,0,9,0;", 7, 2);
            best("t0,2;i1,2,0,10,0;i1,2,0,10,0;i0,1,0,10,0;i0,1,0,10,0;", 7, 2, 0);
            best("t0,2;i1,2,0,10,0;i1,2,0,10,0;i0,1,0,10,0;i0,1,0,10,0;h2,0;", 7, 2, 1);
            best("t0,2;i1,2,0,10,0;i1,2,0,10,0;i0,1,0,10,0;i0,1,0,10,0;h2,0;h2,1;", 7, 3, 0);
            best("t0,3;i2,3,0,9,0;i2,3,0,9,0;i1,2,0,9,0;i0,1,0,9,0;", 7, 3, 2, 0);
        });
    }

    /** Two ways from 0 to 2, straight by C or through A and B, then on by as many as are told. */
    private static String twoWays(boolean straightFirst, int more, int skillOfMore) {
        String aside = "i0,1,0,10,0;i1,2,0,10,0;";
        String straight = "i0,2,0,10,0;";
        StringBuilder text = new StringBuilder("t0,").append(2 + more).append(';')
            .append(straightFirst ? straight + aside : aside + straight);
        for (int k = 0; k < more; k++) {
            text.append("i").append(2 + k).append(',').append(3 + k).append(",0,")
                .append(skillOfMore).append(",0;");
        }
        return text.toString();
    }

    private static int[] row(int more, int... ahead) {
        int[] row = new int[ahead.length + more];
        System.arraycopy(ahead, 0, row, 0, ahead.length);
        for (int k = 0; k < more; k++) {
            row[ahead.length + k] = 3 + k;
        }
        return row;
    }

    private static void bestOfLengths() {
        Boundaries.of(19, "of several the shortest", () -> {
            // A row of each length against one longer by one that keeps as much.
            for (int more = 0; more <= 4; more++) {
                for (int skill : new int[] {0, 9, 10}) {
                    best(twoWays(false, more, skill), 7, row(more, 2));
                    best(twoWays(true, more, skill), 7, row(more, 0));
                }
            }
            // Five, or seven that keep as much: three of 0 and 1 ahead of four more.
            best("t0,5;i0,1,0,10,0;i1,0,0,10,0;i0,1,0,10,0;i1,2,0,9,0;i2,3,0,9,0;i3,4,0,9,0;"
                + "i4,5,0,9,0;", 7, 0, 3, 4, 5, 6);
        });
        Boundaries.of(19, "that by which most is KEPT", () -> {
            // The longer one by one keeps more: the straight way slips once of ten times.
            for (int more = 0; more <= 4; more++) {
                String text = twoWays(false, more, 9).replace("i0,2,0,10,0;", "i0,2,0,9,0;");
                best(text, 7, row(more, 0, 1));
            }
            // 602 of 1000 is more than 6 of 10: NO is turned about, and slips back by one of two.
            best("t0,2;i0,1,4,9,0;i1,2,0,8,0;i0,2,0,6,0;", 7, 0, 1);
            // Seven: who goes on by 3 may be 2 alone, and it is turned about unless by two.
            best("t0,5;i0,1,4,10,0;i1,0,0,10,0;i0,1,4,10,0;i1,2,0,9,0;i2,3,0,9,0;i3,4,0,9,0;"
                + "i4,5,0,9,0;h0,3;h1,3;", 7, ALL);
            best("t0,5;i0,1,4,10,0;i1,0,0,10,0;i0,1,4,10,0;i1,2,0,9,0;i2,3,0,9,0;i3,4,0,9,0;"
                + "i4,5,0,9,0;h0,3;h1,3;", 6, 2, 3, 4, 5, 6);
        });
        Boundaries.of(19, "that by which most is KEPT", () -> {
            // A millionth tells: six keep 0.999999 and 0.800001, he alone 1, 0.8.
            int[] six = {0, 1, 2, 3, 4, 5};
            String less = "t0,6;i0,1,4,9,0;i1,2,0,9,0;i2,3,0,3,0;i3,4,0,7,0;i4,5,4,7,0;i5,6,1,9,0;";
            best(less + "i0,6,0,1,0;", 7, 6);
            best(less + "i0,6,0,1,0;", 5, 6);
            best(less + "i0,6,1,1,0;", 7, six);
            kept(less, 1000000, 999999);
            String more = "t0,6;i0,1,4,9,0;i1,2,3,7,0;i2,3,5,9,0;i3,4,3,3,0;i4,5,4,3,0;i5,6,3,7,0;";
            best(more + "i0,6,5,1,0;", 7, six);
            best(more + "i0,6,5,1,0;", 5, 6);
            best(more + "i0,6,1,1,0;", 7, 6);
            kept(more, 1000000, 800001);
            // Four ten-millionths: round by six and then on by the last, who alone keeps 0.8.
            String round = "t0,6;i0,1,4,8,0;i1,2,1,7,0;i2,3,3,6,0;i3,4,5,9,0;i4,5,3,7,0;i5,0,4,9,0;"
                + "i0,6,5,1,0;h0,6;";
            best(round, 7, ALL);
            best(round, 6, 6);
            kept(round, 10000000, 8000004);
        });
    }

    /** What a row of all keeps, told in so many parts, by what comes of each sense. */
    private static void kept(String text, long parts, long want) {
        MouthsToJudge court = Boundaries.laid(text);
        for (int i = 0; i < court.count(0); i++) {
            court.seat(i);
        }
        long sum = 0;
        for (int s = 0; s < 10; s++) {
            sum += court.comes(s, s, 0) * (parts / court.comes(s, s, 1));
        }
        due("what is kept, of " + parts, sum, want);
    }

    private static void bestAnswers() {
        Boundaries.of(19, "BEST", () -> {
            // That of the court at first, ahead of any that is laid.
            MouthsToJudge court = new MouthsToJudge();
            for (int m = 1; m <= 7; m++) {
                best(court, m, 0);
            }
        });
        Boundaries.of(19, "BEST: how long (i = -1), the i-th.", () -> {
            MouthsToJudge court = Boundaries.laid("t0,2;i1,2,0,10,0;i0,1,0,10,0;");
            due("best(2, -1)", court.best(2, -1), 2);
            due("best(2, 0)", court.best(2, 0), 1);
            due("best(2, 1)", court.best(2, 1), 0);
            // The answer for one m is not that for another, whichever is asked first.
            due("best(1, -1)", court.best(1, -1), NONE);
            due("best(2, -1)", court.best(2, -1), 2);
            due("best(7, -1)", court.best(7, -1), 2);
        });
        Boundaries.of(19, "NONE (beyond, too)", () -> {
            MouthsToJudge court = Boundaries.laid("t0,2;i1,2,0,10,0;i0,1,0,10,0;");
            due("best(2, 2)", court.best(2, 2), NONE);
            due("best(2, 7)", court.best(2, 7), NONE);
            due("best(2, max)", court.best(2, Integer.MAX_VALUE), NONE);
            due("best(1, 0)", court.best(1, 0), NONE);
            due("best(1, max)", court.best(1, Integer.MAX_VALUE), NONE);
            MouthsToJudge full = Boundaries.laid("t0,7;i0,1,0,9,0;i1,2,0,9,0;i2,3,0,9,0;"
                + "i3,4,0,9,0;i4,5,0,9,0;i5,6,0,9,0;i6,7,0,9,0;");
            due("best(7, 6)", full.best(7, 6), 6);
            due("best(7, 7)", full.best(7, 7), NONE);
            due("best(7, 8)", full.best(7, 8), NONE);
        });
        Boundaries.of(19, "BAD (i below -1)", () -> {
            for (int i : new int[] {-2, -3, Integer.MIN_VALUE}) {
                due("best(7, " + i + ")", new MouthsToJudge().best(7, i), BAD);
                due("best(0, " + i + ")", new MouthsToJudge().best(0, i), BAD);
                due("best(1, " + i + ")", Boundaries.laid("t0,5;i0,1,0,1,1;").best(1, i), BAD);
            }
            due("best(8, max)", new MouthsToJudge().best(8, Integer.MAX_VALUE), BAD);
            Boundaries.leavesAll("best(7, -1)", OddsBoundariesTest::busy, busy -> busy.best(7, -1),
                NONE);
        });
        Boundaries.of(19, "of all rows", () -> {
            // What was found for a court is nothing to the next one, nor to one refused.
            MouthsToJudge court = Boundaries.laid("t0,1;i0,1,0,10,0;i0,1,0,9,0;");
            best(court, 7, 0);
            court.write(1, 'x');
            court.lay();
            best(court, 7, 0);
            court.wipe();
            Boundaries.write(court, "t0,1;i0,1,0,9,0;i0,1,0,10,0;");
            best(court, 7, 0);
            due("lay()", court.lay(), 2);
            best(court, 7, 1);
        });
    }

    // ---- promise 20

    private static void bribes(MouthsToJudge court, int sum, int set) {
        due("bribes(0)", court.bribes(0), sum);
        due("bribes(1)", court.bribes(1), set);
    }

    private static void bribing() {
        Boundaries.of(20, "of sets of INTERPRETERS of THE CHAIN", () -> {
            // One who is not seated can't be bribed, though he is cheaper.
            bribes(Boundaries.laid("i0,1,0,0,0;i0,1,0,0,9;", 1), 9, 2);
            bribes(Boundaries.laid("i0,1,0,0,0;i0,1,0,0,9;", 1, 0), 0, 1);
            bribes(Boundaries.laid("i0,1,0,0,0;i0,1,0,0,9;"), NONE, NONE);
        });
        Boundaries.of(20, "(bits by their numbers", () -> {
            for (int i = 0; i < 7; i++) {
                bribes(Boundaries.laid("i0,1,0,0,7;".repeat(7), i), 7, 1 << i);
            }
            bribes(Boundaries.laid("i0,1,0,0,7;i0,1,0,0,6;i0,1,0,0,8;", 2, 0, 1), 6, 2);
        });
        Boundaries.of(20, "those who are CONTRARY already may be in one)", () -> {
            // It changes nothing that one is in it, so that none of the least sets has one.
            bribes(Boundaries.laid("i0,1,4,0,0;", 0), 0, 0);
            bribes(Boundaries.laid("i0,1,4,0,0;i0,1,4,0,0;", 0, 1), NONE, NONE);
            bribes(Boundaries.laid("i0,1,4,0,0;i0,1,4,0,0;i0,1,0,0,3;", 0, 1, 2), 3, 4);
        });
        Boundaries.of(20, "if these did as CONTRARY ones, NO would become YES by all of it without"
            + " SLIPS", () -> {
                // EAGER makes YES of PERHAPS: a set of none will do.
                bribes(Boundaries.laid("i0,1,1,0,9;i0,1,5,0,9;", 0, 1), 0, 0);
                bribes(Boundaries.laid("i0,1,1,0,9;i0,1,5,0,9;", 1, 0), 9, 1);
                // SKILL 0 ones would slip always; TONGUES lack.
                bribes(Boundaries.laid("t7,8;i0,1,0,0,9;", 0), 9, 1);
                bribes(Boundaries.laid("i0,1,0,10,9;", 0), 9, 1);
                // POLITE behind POLITE: the first, or NO is PERHAPS by then.
                bribes(Boundaries.laid("i0,1,1,0,9;i0,1,1,0,1;", 0, 1), 9, 1);
                // THE SENTENCE is nothing to it.
                MouthsToJudge spoken = Boundaries.laid("i0,1,0,0,9;", 0);
                Boundaries.speak(spoken, 1, 3);
                bribes(spoken, 9, 1);
            });
        Boundaries.of(20, "the sum; the set; none.", () -> {
            // POLITE and CONTRARY by turns: all four POLITE ones have to be bribed.
            MouthsToJudge court = Boundaries.laid("i0,1,4,0,1;i0,1,1,0,99;i0,1,4,0,1;i0,1,1,0,99;"
                + "i0,1,4,0,1;i0,1,1,0,99;i0,1,1,0,99;", 6, 0, 5, 2, 3, 4, 1);
            bribes(court, 396, 64 + 32 + 8 + 2);
            due("unseat()", court.unseat(), 1);
            bribes(court, NONE, NONE);
            bribes(new MouthsToJudge(), NONE, NONE);
        });
        Boundaries.of(20, "BRIBES: the sum (what = 0), the set (1). NONE; BAD.", () -> {
            for (int what : new int[] {-1, 2, Integer.MIN_VALUE, Integer.MAX_VALUE}) {
                due("bribes(" + what + ") of none", new MouthsToJudge().bribes(what), BAD);
                due("bribes(" + what + ")", busy().bribes(what), BAD);
            }
            Boundaries.leavesAll("bribes(0)", OddsBoundariesTest::busy, busy -> busy.bribes(0), 7);
            Boundaries.leavesAll("bribes(1)", OddsBoundariesTest::busy, busy -> busy.bribes(1), 1);
        });
    }

    private static void bribingAmongEquals() {
        Boundaries.of(20, "that of the least PRICES together", () -> {
            // Two for 5, or one for 6: POLITE, EAGER, CONTRARY, FAITHFUL.
            String court = "i0,1,1,0,2;i0,1,5,0,3;i0,1,4,0,0;i0,1,0,0,%d;";
            bribes(Boundaries.laid(String.format(court, 6), 0, 1, 2, 3), 5, 3);
            bribes(Boundaries.laid(String.format(court, 99), 0, 1, 2, 3), 5, 3);
            bribes(Boundaries.laid(String.format(court, 4), 0, 1, 2, 3), 4, 8);
            bribes(Boundaries.laid("i0,1,0,0,99;i0,1,0,0,98;", 0, 1), 98, 2);
        });
        Boundaries.of(20, "of several of fewest", () -> {
            String court = "i0,1,1,0,2;i0,1,5,0,3;i0,1,4,0,0;i0,1,0,0,5;";
            bribes(Boundaries.laid(court, 0, 1, 2, 3), 5, 8);
            // Three, too, would do for nothing.
            bribes(Boundaries.laid("i0,1,0,0,0;i0,1,0,0,0;i0,1,0,0,0;", 2, 1, 0), 0, 1);
        });
        Boundaries.of(20, "then of the least bits", () -> {
            bribes(Boundaries.laid("i0,1,0,0,5;".repeat(7), 6, 5, 4, 3, 2, 1, 0), 5, 1);
            bribes(Boundaries.laid("i0,1,0,0,5;".repeat(7), 3, 6, 4), 5, 8);
            bribes(Boundaries.laid("i0,1,0,0,5;".repeat(7), 6, 5), 5, 32);
        });
    }

    // ---- promise 21

    private static void parrot(MouthsToJudge court, int n, int place, int above, int below) {
        due("parrot(" + n + ", 0)", court.parrot(n, 0), place);
        Boundaries.fraction("parrot(" + n + ")", court.parrot(n, 1), court.parrot(n, 2), above,
            below);
    }

    private static void passingBy() {
        Boundaries.of(21, "n (1 to 7) of THE CHAIN", () -> {
            MouthsToJudge court = Boundaries.laid(seven(0, 9), ALL);
            int[] above = {531441, 59049, 6561, 729, 81, 9, 1};
            int below = 1000000;
            for (int n = 1; n <= 7; n++) {
                parrot(court, n, 0, above[n - 1], below);
                below /= 10;
            }
            for (int n : new int[] {0, 8, -1, Integer.MIN_VALUE, Integer.MAX_VALUE}) {
                for (int what = 0; what < 3; what++) {
                    due("parrot(" + n + ", " + what + ")", court.parrot(n, what), BAD);
                }
            }
        });
        Boundaries.of(21, "one behind the other, are passed by, so that by the others most is KEPT",
            () -> {
                String court = "i0,1,0,5,0;i0,1,0,10,0;i0,1,0,5,0;i0,1,0,6,0;";
                // The two of SKILL 5 are not one behind the other.
                parrot(Boundaries.laid(court, 0, 1, 2, 3), 2, 2, 1, 2);
                parrot(Boundaries.laid(court, 0, 2, 1, 3), 2, 0, 3, 5);
                parrot(Boundaries.laid(court, 3, 1, 2), 1, 2, 3, 5);
                parrot(Boundaries.laid(court, 1, 3, 2), 1, 2, 3, 5);
                parrot(Boundaries.laid(court, 2, 1, 3), 1, 0, 3, 5);
                // Without one of them two CONTRARY ones keep all.
                parrot(Boundaries.laid("i0,1,4,10,0;i0,1,1,10,0;i0,1,4,10,0;", 0, 1, 2), 1, 1, 1, 1);
            });
        Boundaries.of(21, "of several the first: the place of the first of them", () -> {
            parrot(Boundaries.laid(seven(0, 10), ALL), 3, 0, 1, 1);
            parrot(Boundaries.laid("i0,1,0,9,0;i0,1,0,5,0;i0,1,0,5,0;i0,1,0,9,0;", 0, 1, 2, 3), 1, 1,
                81, 200);
            parrot(Boundaries.laid("i0,1,0,0,0;i0,1,0,0,0;", 0, 1), 1, 0, 0, 1);
            // The place in THE CHAIN, not his number.
            parrot(Boundaries.laid("i0,1,0,5,0;i0,1,0,9,0;", 1, 0), 1, 1, 9, 10);
        });
        Boundaries.of(21, "a tenth of what is KEPT, above, below, in lowest terms", () -> {
            parrot(Boundaries.laid("i0,1,0,5,0;", 0), 1, 0, 1, 1);
            // By POLITE nine of ten senses come as themselves.
            parrot(Boundaries.laid("i0,1,1,10,0;i0,1,0,0,0;", 0, 1), 1, 1, 9, 10);
            parrot(Boundaries.laid("i0,1,4,10,0;i0,1,0,0,0;", 0, 1), 1, 1, 4, 5);
            // By a CONTRARY one who slips always NO alone comes as itself.
            parrot(Boundaries.laid("i0,1,4,0,0;i0,1,0,0,0;", 0, 1), 1, 1, 1, 10);
            parrot(Boundaries.laid("i0,1,0,0,0;i0,1,0,0,0;", 0, 1), 1, 0, 0, 1);
        });
        Boundaries.of(21, "none (there are fewer than n)", () -> {
            MouthsToJudge court = Boundaries.laid(seven(0, 9));
            for (int seated = 0; seated <= 7; seated++) {
                for (int what = 0; what < 3; what++) {
                    for (int n = seated + 1; n <= 7; n++) {
                        due("parrot(" + n + ", " + what + ")", court.parrot(n, what), NONE);
                    }
                }
                if (seated > 0) {
                    parrot(court, seated, 0, 1, 1);
                }
                court.seat(seated);
            }
        });
        Boundaries.of(21, "PARROT: the place (what = 0), above (1), below (2). NONE; BAD.", () -> {
            for (int what : new int[] {-1, 3, Integer.MIN_VALUE, Integer.MAX_VALUE}) {
                due("parrot(1, " + what + ")", busy().parrot(1, what), BAD);
                due("parrot(2, " + what + ")", busy().parrot(2, what), BAD);
                due("parrot(8, " + what + ")", busy().parrot(8, what), BAD);
            }
            due("parrot(0, 0) of none", new MouthsToJudge().parrot(0, 0), BAD);
            Boundaries.leavesAll("parrot(1, 0)", OddsBoundariesTest::busy, c -> c.parrot(1, 0), 0);
            Boundaries.leavesAll("parrot(2, 0)", OddsBoundariesTest::busy, c -> c.parrot(2, 0),
                NONE);
        });
    }
}
