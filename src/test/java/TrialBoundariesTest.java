import java.util.function.ToLongFunction;

/** The boundary cases of trials, of what is kept, of count, and of what is refused. */
public final class TrialBoundariesTest {
    private static final int BAD = Boundaries.BAD, NO = Boundaries.NO, FULL = Boundaries.FULL,
        NONE = Boundaries.NONE;
    private static final int[] ALL = {0, 1, 2, 3, 4, 5, 6};
    private static final String ORDER =
        "Of several the first in this order, whatever the order at a call";

    public static void main(String[] args) {
        trying();
        drawing();
        verdicts();
        falling();
        keeping();
        comingAgain();
        counting();
        firstInTheOrder();
        nothingChanges();
        Boundaries.end();
    }

    private static void due(String call, long got, long want) {
        Boundaries.due(call, got, want);
    }

    // ---- promise 22

    private static void trying() {
        Boundaries.of(22, "A TRIAL by z (0 to 9999)", () -> {
            MouthsToJudge court = Boundaries.laid("i0,1,0,5,0;", 0);
            Boundaries.speak(court, 4);
            for (int z : new int[] {0, 1, 9998, 9999}) {
                due("trial(" + z + ", 0)", court.trial(z, 0), Boundaries.draw(z, 0, 0) >= 5 ? 5 : 4);
            }
            for (int z : new int[] {-1, 10000, 10001, Integer.MIN_VALUE, Integer.MAX_VALUE}) {
                due("trial(" + z + ", 0)", court.trial(z, 0), BAD);
                due("trial(" + z + ", 1)", court.trial(z, 1), BAD);
                due("trial(" + z + ", -1)", court.trial(z, -1), BAD);
            }
        });
        Boundaries.of(22, "A TRIAL: what comes of word i. NONE: not so many words", () -> {
            MouthsToJudge court = Boundaries.laid("i0,1,0,0,0;", 0);
            due("trial(0, 0) of none", court.trial(0, 0), NONE);
            for (int i = 0; i < 12; i++) {
                Boundaries.speak(court, i % 10);
                due("trial(9999, " + i + ")", court.trial(9999, i), (i + 1) % 10);
                due("trial(9999, " + (i + 1) + ")", court.trial(9999, i + 1), NONE);
            }
            due("trial(0, max)", court.trial(0, Integer.MAX_VALUE), NONE);
            court.silence();
            due("trial(0, 0)", court.trial(0, 0), NONE);
        });
        Boundaries.of(22, "BAD (i below 0)", () -> {
            MouthsToJudge court = Boundaries.laid("i0,1,0,0,0;", 0);
            due("trial(0, -1) of none", court.trial(0, -1), BAD);
            Boundaries.speak(court, 4);
            due("trial(0, -1)", court.trial(0, -1), BAD);
            due("trial(9999, min)", court.trial(9999, Integer.MIN_VALUE), BAD);
            due("trial(0, 0)", court.trial(0, 0), 5);
        });
        Boundaries.of(22, "the i-th of THE SENTENCE goes through THE CHAIN", () -> {
            MouthsToJudge court = Boundaries.laid("t7,8;i0,1,4,0,0;i0,1,1,10,0;i0,1,3,10,0;"
                + "i0,1,0,0,0;");
            Boundaries.speak(court, 2, 1, 8, 9);
            // No mouth: what was said.
            due("trial(7, 0)", court.trial(7, 0), 2);
            due("trial(7, 3)", court.trial(7, 3), 9);
            Boundaries.seat(court, 0, 1);
            // NO is turned to YES, slips to NO, and is PERHAPS by the POLITE one.
            due("trial(7, 0)", court.trial(7, 0), 3);
            // YES is turned to NO, and slips to PERHAPS.
            due("trial(7, 1)", court.trial(7, 1), 3);
            due("trial(7, 2)", court.trial(7, 2), 9);
            due("trial(7, 3)", court.trial(7, 3), 0);
            // It does not change what was said.
            Boundaries.sentenceIs(court, 2, 1, 8, 9);
            MouthsToJudge sheep = Boundaries.laid("i0,1,3,0,0;", 0);
            Boundaries.speak(sheep, 8);
            due("trial(7, 0) of a PROVERB", sheep.trial(7, 0), 0);
        });
    }

    private static void drawing() {
        Boundaries.of(22, "SLIPS, if ((x times x) modulo 65521) modulo 10 is his SKILL or more", () -> {
            for (int skill = 0; skill <= 10; skill++) {
                MouthsToJudge court = Boundaries.laid("i0,1,0," + skill + ",0;", 0);
                Boundaries.speak(court, 9);
                boolean met = skill == 10;
                for (int z = 0; z < 100; z++) {
                    int draw = Boundaries.draw(z, 0, 0);
                    met |= draw == skill;
                    due("trial(" + z + ", 0)", court.trial(z, 0), draw >= skill ? 0 : 9);
                }
                Boundaries.holds("a draw of SKILL itself", met);
            }
            // x is 1 at z 0, word 0, mouth 0: the draw is 1.
            for (int skill = 0; skill <= 10; skill++) {
                MouthsToJudge court = Boundaries.laid("i0,1,0," + skill + ",0;", 0);
                Boundaries.speak(court, 4);
                due("trial(0, 0) by SKILL " + skill, court.trial(0, 0), skill <= 1 ? 5 : 4);
            }
        });
        Boundaries.of(22, "x being 7919 z, 6151 i, 3571 k and 1 together", () -> {
            // The largest: 79,271,129; its square is far beyond an int, but not a long.
            for (int z : new int[] {0, 1, 5, 6, 271, 272, 9998, 9999}) {
                MouthsToJudge court = Boundaries.laid("i0,1,0,5,0;".repeat(7));
                Boundaries.speak(court, 0, 1, 2, 3, 4, 5, 6, 7, 8, 9, 0, 1);
                for (int seated = 1; seated <= 7; seated++) {
                    court.seat(7 - seated);
                    due("trial(" + z + ", 0)", court.trial(z, 0), slipped(0, z, 0, seated));
                    due("trial(" + z + ", 1)", court.trial(z, 1), slipped(1, z, 1, seated));
                    due("trial(" + z + ", 11)", court.trial(z, 11), slipped(1, z, 11, seated));
                }
            }
        });
        Boundaries.of(22, "the k-th of it (0 first)", () -> {
            // By his place, not by his number: x is 1 for the first, 3572 for the second.
            Boundaries.holds("the draws are 1 and 0", Boundaries.draw(0, 0, 0) == 1
                && Boundaries.draw(0, 0, 1) == 0);
            for (int[] seats : new int[][] {{0, 1}, {1, 0}}) {
                MouthsToJudge court = Boundaries.laid("i0,1,0,1,0;i0,1,0,1,0;", seats);
                Boundaries.speak(court, 4);
                due("trial(0, 0)", court.trial(0, 0), 5);
                court.unseat();
                due("trial(0, 0)", court.trial(0, 0), 5);
            }
            MouthsToJudge sure = Boundaries.laid("i0,1,0,1,0;i0,1,0,10,0;", 1, 0);
            Boundaries.speak(sure, 4);
            due("trial(0, 0)", sure.trial(0, 0), 4);
        });
    }

    /** What comes of a sense by so many FAITHFUL ones of SKILL 5. */
    private static int slipped(int s, int z, int i, int mouths) {
        int sense = s;
        for (int k = 0; k < mouths; k++) {
            sense = (sense + (Boundaries.draw(z, i, k) >= 5 ? 1 : 0)) % 10;
        }
        return sense;
    }

    // ---- promise 23

    /** Of words that a sure CONTRARY one turns about: all fall, but where as many are of both. */
    private static void turnedAbout(int fallen, int... words) {
        MouthsToJudge court = Boundaries.laid("i0,1,4,10,0;", 0);
        Boundaries.speak(court, words);
        due("falls(0)", court.falls(0), fallen);
        due("falls(9999)", court.falls(9999), fallen);
    }

    private static void verdicts() {
        Boundaries.of(23, "A VERDICT of SENSES: 1, if more are YES than NO, 2, if fewer, else 0.",
            () -> {
                turnedAbout(0);
                turnedAbout(10, 1);
                turnedAbout(10, 2);
                turnedAbout(0, 1, 2);
                turnedAbout(10, 1, 2, 1);
                turnedAbout(10, 2, 1, 2);
                turnedAbout(0, 0, 3, 4, 5, 6, 7, 8, 9);
                turnedAbout(0, 1, 1, 1, 1, 1, 1, 2, 2, 2, 2, 2, 2);
                turnedAbout(10, 1, 1, 1, 1, 1, 1, 1, 2, 2, 2, 2, 2);
                turnedAbout(10, 3, 3, 3, 3, 3, 3, 3, 3, 3, 3, 3, 1);
            });
        Boundaries.of(23, "the VERDICT of what comes is not that of THE SENTENCE", () -> {
            // From each of the three to each other one.
            falls("i0,1,0,0,0;", 10, 0);
            falls("i0,1,0,0,0;", 10, 1, 2);
            falls("i0,1,0,0,0;", 10, 1, 1, 0, 0);
            falls("i0,1,0,0,0;", 10, 1);
            falls("i0,1,0,0,0;", 10, 2, 3);
            falls("i0,1,5,10,0;", 10, 3, 3, 2);
            // Fewer than ahead, but still more, or fewer, than of the other.
            falls("i0,1,0,0,0;", 0, 1, 2, 2);
            falls("i0,1,1,10,0;", 10, 1, 2);
            falls("i0,1,1,10,0;", 0, 1, 1, 2);
            falls("i0,1,5,10,0;", 10, 1, 3, 2);
            falls("i0,1,5,10,0;", 0, 2, 3, 2);
            falls("i0,1,1,10,0;", 10, 2);
            // Other words than YES and NO may change as they like.
            falls("i0,1,0,0,0;", 0, 3, 9, 8, 4);
            falls("i0,1,2,10,0;", 0, 4, 5, 6, 1);
            falls("i0,1,0,10,0;", 0, 1, 1, 2);
        });
    }

    private static void falls(String mouth, int fallen, int... words) {
        MouthsToJudge court = Boundaries.laid(mouth, 0);
        Boundaries.speak(court, words);
        due("falls(5)", court.falls(5), fallen);
        court.unseat();
        due("falls(5) without mouths", court.falls(5), 0);
    }

    private static int fallsOfOneYes(int z, boolean round) {
        int fallen = 0;
        for (int d = 0; d < 10; d++) {
            fallen += Boundaries.draw(round ? (z + d) % 10000 : z + d, 0, 0) >= 5 ? 1 : 0;
        }
        return fallen;
    }

    private static void falling() {
        Boundaries.of(23, "of ten (z, z and 1, .. modulo 10000)", () -> {
            MouthsToJudge court = Boundaries.laid("i0,1,0,5,0;", 0);
            Boundaries.speak(court, 1);
            int unlike = 0;
            for (int z = 9985; z < 10000; z++) {
                due("falls(" + z + ")", court.falls(z), fallsOfOneYes(z, true));
                unlike += fallsOfOneYes(z, true) == fallsOfOneYes(z, false) ? 0 : 1;
            }
            for (int z = 0; z < 30; z++) {
                due("falls(" + z + ")", court.falls(z), fallsOfOneYes(z, true));
            }
            Boundaries.holds("going round tells", unlike > 0);
        });
        Boundaries.of(23, "FALLS. BAD.", () -> {
            MouthsToJudge court = Boundaries.laid("i0,1,4,10,0;", 0);
            Boundaries.speak(court, 1);
            due("falls(0)", court.falls(0), 10);
            due("falls(9999)", court.falls(9999), 10);
            for (int z : new int[] {-1, 10000, Integer.MIN_VALUE, Integer.MAX_VALUE}) {
                due("falls(" + z + ")", court.falls(z), BAD);
                due("falls(" + z + ") of none", new MouthsToJudge().falls(z), BAD);
            }
            due("falls(0) of none", new MouthsToJudge().falls(0), 0);
        });
    }

    // ---- promises 24 and 25

    private static MouthsToJudge twoKept() {
        MouthsToJudge court = Boundaries.laid("i0,1,0,9,1;".repeat(7), ALL);
        Boundaries.speak(court, 0, 1, 2, 3, 4, 5, 6, 7, 8, 9, 8, 7);
        court.keep();
        court.unseat();
        court.silence();
        Boundaries.speak(court, 6);
        court.keep();
        court.unseat();
        return court;
    }

    private static void keeping() {
        Boundaries.of(24, "What is kept by keep() are THE CHAIN and THE SENTENCE: 2 at most.", () -> {
            MouthsToJudge court = Boundaries.laid("i0,1,0,9,1;".repeat(3), 2, 0);
            Boundaries.speak(court, 5, 1);
            due("keep()", court.keep(), 1);
            due("keep()", court.keep(), 2);
            due("keep() of a third", court.keep(), FULL);
            due("count(4)", court.count(4), 2);
            due("again()", court.again(), 1);
            due("keep()", court.keep(), 2);
            due("keep()", court.keep(), FULL);
            Boundaries.leavesAll("keep()", TrialBoundariesTest::twoKept, kept -> kept.keep(), FULL);
        });
        Boundaries.of(24, "KEEP: how many.", () -> {
            // Nothing of what goes on is changed by it, nor by what comes behind what is kept.
            MouthsToJudge court = Boundaries.laid("i0,1,0,9,1;".repeat(3), 2, 0);
            Boundaries.speak(court, 5, 1);
            due("keep()", court.keep(), 1);
            Boundaries.chainIs(court, 2, 0);
            Boundaries.sentenceIs(court, 5, 1);
            due("count(3)", court.count(3), 2);
            due("undo()", court.undo(), 1);
            court.silence();
            Boundaries.speak(court, 9, 9, 9);
            court.again();
            Boundaries.chainIs(court, 2, 0);
            Boundaries.sentenceIs(court, 5, 1);
            // Another row of as many, and other words, ahead of what comes again.
            court.keep();
            court.unseat();
            court.unseat();
            Boundaries.seat(court, 1, 2);
            court.silence();
            Boundaries.speak(court, 3, 7);
            court.again();
            Boundaries.chainIs(court, 2, 0);
            Boundaries.sentenceIs(court, 5, 1);
        });
        Boundaries.of(24, "THE CHAIN and THE SENTENCE", () -> {
            // None and none can be kept; so can all seven and twelve.
            MouthsToJudge court = Boundaries.laid("i0,1,0,9,1;".repeat(7));
            due("keep()", court.keep(), 1);
            Boundaries.seat(court, 6, 5, 4, 3, 2, 1, 0);
            Boundaries.speak(court, 9, 8, 7, 6, 5, 4, 3, 2, 1, 0, 1, 2);
            due("keep()", court.keep(), 2);
            court.unseat();
            court.silence();
            due("again()", court.again(), 1);
            Boundaries.chainIs(court, 6, 5, 4, 3, 2, 1, 0);
            Boundaries.sentenceIs(court, 9, 8, 7, 6, 5, 4, 3, 2, 1, 0, 1, 2);
            due("word(0)", court.word(0), FULL);
            due("again()", court.again(), 0);
            Boundaries.chainIs(court);
            Boundaries.sentenceIs(court);
            due("seat(6)", court.seat(6), 1);
            due("word(0)", court.word(0), 1);
        });
    }

    private static void comingAgain() {
        Boundaries.of(25, "As kept last: how many are left", () -> {
            MouthsToJudge court = twoKept();
            due("again()", court.again(), 1);
            Boundaries.chainIs(court, 0, 1, 2, 3, 4, 5);
            Boundaries.sentenceIs(court, 6);
            due("count(4)", court.count(4), 1);
            due("again()", court.again(), 0);
            Boundaries.chainIs(court, ALL);
            Boundaries.sentenceIs(court, 0, 1, 2, 3, 4, 5, 6, 7, 8, 9, 8, 7);
            due("count(4)", court.count(4), 0);
        });
        Boundaries.of(25, "nothing is to be UNDONE then", () -> {
            MouthsToJudge court = twoKept();
            due("count(3)", court.count(3), 8);
            due("again()", court.again(), 1);
            due("count(3)", court.count(3), 0);
            due("undo()", court.undo(), NO);
            due("unseat()", court.unseat(), 5);
            due("undo()", court.undo(), 0);
            Boundaries.chainIs(court, 0, 1, 2, 3, 4, 5);
        });
        Boundaries.of(25, "NO.", () -> {
            due("again() at first", new MouthsToJudge().again(), NO);
            Boundaries.leavesAll("again()", () -> {
                MouthsToJudge court = twoKept();
                court.again();
                court.again();
                court.unseat();
                court.silence();
                return court;
            }, court -> court.again(), NO);
        });
    }

    // ---- promise 26

    private static void countsAre(MouthsToJudge court, int... counts) {
        for (int what = 0; what < 8; what++) {
            due("count(" + what + ")", court.count(what), counts[what]);
        }
    }

    private static void counting() {
        Boundaries.of(26, "0 INTERPRETERS, 1 seated, 2 words, 3 that can be UNDONE, 4 kept, 5 bytes of"
            + " THE TEXT, 6 TONGUE of who speaks, 7 of the judge", () -> {
                countsAre(new MouthsToJudge(), 1, 0, 0, 0, 0, 0, 0, 1);
                // All of them as high as they go.
                MouthsToJudge court = Boundaries.laid("i0,1,0,9,1;".repeat(7) + "t8,7;", ALL);
                court.unseat();
                Boundaries.seat(court, 6);
                Boundaries.speak(court, 0, 1, 2, 3, 4, 5, 6, 7, 8, 9, 8, 7);
                court.keep();
                court.keep();
                Boundaries.write(court, "x".repeat(118));
                countsAre(court, 7, 7, 12, 8, 2, 200, 8, 7);
                // And what is refused then does not count.
                court.seat(0);
                court.word(0);
                court.keep();
                court.write(1, 0);
                court.lay();
                countsAre(court, 7, 7, 12, 8, 2, 200, 8, 7);
            });
        Boundaries.of(26, "How many", () -> {
            for (int what : new int[] {-1, 8, 9, Integer.MIN_VALUE, Integer.MAX_VALUE}) {
                due("count(" + what + ")", new MouthsToJudge().count(what), BAD);
                due("count(" + what + ")", twoKept().count(what), BAD);
            }
        });
    }

    // ---- what is refused

    private static void firstInTheOrder() {
        Boundaries.of(2, ORDER, () -> {
            MouthsToJudge court = Boundaries.written("x".repeat(200));
            due("write(0, 0)", court.write(0, 0), BAD);
            due("write(9, 0)", court.write(9, 0), BAD);
            due("write(8, 0)", court.write(8, 0), FULL);
        });
        Boundaries.of(13, ORDER, () -> {
            due("word(10)", twelve().word(10), BAD);
            due("word(-1)", twelve().word(-1), BAD);
            due("word(9)", twelve().word(9), FULL);
        });
        Boundaries.of(15, ORDER, () -> {
            due("said(12, 1)", twelve().said(12, 1), BAD);
            due("said(12, -1)", twelve().said(12, -1), BAD);
            due("said(12, 0)", twelve().said(12, 0), NONE);
        });
        Boundaries.of(17, ORDER, () -> {
            MouthsToJudge court = Boundaries.laid("i0,1,1,10,0;", 0);
            due("was(10, 2, 0)", court.was(10, 2, 0), BAD);
            due("was(0, 2, 2)", court.was(0, 2, 2), BAD);
            due("was(0, 2, 0)", court.was(0, 2, 0), NONE);
        });
        Boundaries.of(19, ORDER, () -> {
            MouthsToJudge court = Boundaries.laid("t0,5;i0,1,1,10,0;");
            due("best(0, 9)", court.best(0, 9), BAD);
            due("best(8, -1)", court.best(8, -1), BAD);
            due("best(1, -2)", court.best(1, -2), BAD);
            due("best(1, 9)", court.best(1, 9), NONE);
        });
        Boundaries.of(20, ORDER, () -> {
            due("bribes(2)", new MouthsToJudge().bribes(2), BAD);
            due("bribes(1)", new MouthsToJudge().bribes(1), NONE);
        });
        Boundaries.of(21, ORDER, () -> {
            due("parrot(7, 3)", new MouthsToJudge().parrot(7, 3), BAD);
            due("parrot(8, 0)", new MouthsToJudge().parrot(8, 0), BAD);
            due("parrot(7, 2)", new MouthsToJudge().parrot(7, 2), NONE);
        });
        Boundaries.of(22, ORDER, () -> {
            due("trial(10000, 12)", twelve().trial(10000, 12), BAD);
            due("trial(-1, 12)", twelve().trial(-1, 12), BAD);
            due("trial(9999, 12)", twelve().trial(9999, 12), NONE);
        });
    }

    private static MouthsToJudge twelve() {
        MouthsToJudge court = new MouthsToJudge();
        Boundaries.speak(court, 0, 1, 2, 3, 4, 5, 6, 7, 8, 9, 0, 1);
        return court;
    }

    /** As much as can be told, seated, said, kept and undone, and a text that can't be laid. */
    private static MouthsToJudge crowded() {
        MouthsToJudge court = twoKept();
        court.silence();
        Boundaries.speak(court, 1, 2, 3, 4, 5, 6, 7, 8, 9, 0, 1, 2);
        Boundaries.write(court, "t3,4;".repeat(24) + "xyz");
        return court;
    }

    private static void refused(int promise, String call, ToLongFunction<MouthsToJudge> calling,
            int want) {
        Boundaries.of(promise, "nothing changes then", () -> Boundaries.leavesAll(call,
            TrialBoundariesTest::crowded, calling, want));
    }

    private static void nothingChanges() {
        refused(2, "write(9, 0)", court -> court.write(9, 0), BAD);
        refused(2, "write(1, 0)", court -> court.write(1, 0), FULL);
        refused(5, "lay()", court -> court.lay(), NO);
        refused(6, "mouth(7, 0)", court -> court.mouth(7, 0), BAD);
        refused(7, "makes(6, 0)", court -> court.makes(6, 0), BAD);
        refused(8, "seat(7)", court -> court.seat(7), BAD);
        refused(8, "seat(4)", court -> court.seat(4), NO);
        refused(11, "chain(5)", court -> court.chain(5), NONE);
        refused(11, "chain(-1)", court -> court.chain(-1), BAD);
        refused(12, "judged()", court -> court.judged(), NONE);
        refused(13, "word(10)", court -> court.word(10), BAD);
        refused(13, "word(1)", court -> court.word(1), FULL);
        refused(15, "said(12, 0)", court -> court.said(12, 0), NONE);
        refused(15, "said(0, 6)", court -> court.said(0, 6), BAD);
        refused(16, "comes(10, 0, 0)", court -> court.comes(10, 0, 0), BAD);
        refused(17, "was(0, 10, 0)", court -> court.was(0, 10, 0), BAD);
        refused(18, "back(0, 2)", court -> court.back(0, 2), BAD);
        refused(19, "best(8, 0)", court -> court.best(8, 0), BAD);
        refused(19, "best(7, 7)", court -> court.best(7, 7), NONE);
        refused(20, "bribes(2)", court -> court.bribes(2), BAD);
        refused(21, "parrot(6, 0)", court -> court.parrot(6, 0), NONE);
        refused(21, "parrot(0, 0)", court -> court.parrot(0, 0), BAD);
        refused(22, "trial(10000, 0)", court -> court.trial(10000, 0), BAD);
        refused(22, "trial(0, 12)", court -> court.trial(0, 12), NONE);
        refused(23, "falls(10000)", court -> court.falls(10000), BAD);
        refused(24, "keep()", court -> court.keep(), FULL);
        refused(26, "count(8)", court -> court.count(8), BAD);
    }
}
