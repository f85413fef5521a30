import java.math.BigInteger;
import java.nio.charset.StandardCharsets;
import java.util.function.Supplier;
import java.util.function.ToLongFunction;

/** What the tests of boundary cases share: a test for each sentence, which it quotes. */
final class Boundaries {
    static final int BAD = -1, NO = -2, FULL = -3, NONE = -4;

    /** What is below and above any range that the document tells. */
    static final int[] FAR = {Integer.MIN_VALUE, Integer.MIN_VALUE + 1, Integer.MAX_VALUE - 1,
        Integer.MAX_VALUE};

    private static int sentences = 0;
    private static int wrong = 0;
    private static String current = "";

    private Boundaries() {
    }

    /** One sentence of the document; an exception is a wrong answer, too. */
    static void of(int promise, String sentence, Runnable check) {
        sentences++;
        current = "Promise " + promise + ", \"" + sentence + "\": ";
        try {
            check.run();
        } catch (RuntimeException thrown) {
            wrong++;
            System.out.println(current + "threw " + thrown);
        }
    }

    static void due(String call, long got, long want) {
        if (got != want) {
            wrong++;
            System.out.println(current + call + " answered " + got + ", due is " + want);
        }
    }

    /** A test whose numbers would not show the fault that it is for is at fault itself. */
    static void holds(String what, boolean so) {
        due(what, so ? 1 : 0, 1);
    }

    static void end() {
        System.out.println(wrong == 0 ? sentences + " sentences hold" : wrong + " answers are not as due");
        if (wrong != 0) {
            System.exit(1);
        }
    }

    /** Eight bytes a call, so that an object stays far below its 512 calls. */
    static void write(MouthsToJudge court, String text) {
        byte[] bytes = text.getBytes(StandardCharsets.ISO_8859_1);
        for (int from = 0; from < bytes.length; from += 8) {
            int n = Math.min(8, bytes.length - from);
            long v = 0;
            for (int k = 0; k < n; k++) {
                v = v << 8 | bytes[from + k] & 255;
            }
            court.write(n, v);
        }
    }

    static MouthsToJudge written(String text) {
        MouthsToJudge court = new MouthsToJudge();
        write(court, text);
        return court;
    }

    static MouthsToJudge laid(String text, int... seats) {
        MouthsToJudge court = written(text);
        holds("lay() of " + text, court.lay() >= 1);
        seat(court, seats);
        return court;
    }

    static void seat(MouthsToJudge court, int... seats) {
        for (int i : seats) {
            holds("seat(" + i + ")", court.seat(i) >= 1);
        }
    }

    static void speak(MouthsToJudge court, int... senses) {
        for (int s : senses) {
            holds("word(" + s + ")", court.word(s) >= 1);
        }
    }

    static void faultOf(String text, int want) {
        due("fault() of " + text, written(text).fault(), want);
    }

    static void fraction(String call, long above, long below, long wantAbove, long wantBelow) {
        due(call + " above", above, wantAbove);
        due(call + " below", below, wantBelow);
    }

    static void chainIs(MouthsToJudge court, int... seats) {
        due("count(1)", court.count(1), seats.length);
        for (int k = 0; k < seats.length; k++) {
            due("chain(" + k + ")", court.chain(k), seats[k]);
        }
        due("chain(" + seats.length + ")", court.chain(seats.length), NONE);
    }

    static void sentenceIs(MouthsToJudge court, int... words) {
        due("count(2)", court.count(2), words.length);
        for (int i = 0; i < words.length; i++) {
            due("said(" + i + ", 0)", court.said(i, 0), words[i]);
        }
        due("said(" + words.length + ", 0)", court.said(words.length, 0), NONE);
    }

    /** A call that is refused or only asks: its answer, and that a twin without it is the same. */
    static void leavesAll(String call, Supplier<MouthsToJudge> made,
            ToLongFunction<MouthsToJudge> calling, long want) {
        MouthsToJudge called = made.get();
        due(call, calling.applyAsLong(called), want);
        String left = traceOf(called);
        String due = traceOf(made.get());
        if (!left.equals(due)) {
            wrong++;
            System.out.println(current + call + " changed\n  " + due + " to\n  " + left);
        }
    }

    /** All that can be seen of an object, down to what can be undone, is kept, and is written. */
    private static String traceOf(MouthsToJudge court) {
        StringBuilder trace = new StringBuilder();
        look(court, trace);
        for (int k = 0; k < 9 && court.undo() >= 0; k++) {
            lookAtChain(court, trace.append("undo"));
        }
        for (int k = 0; k < 3 && court.again() >= 0; k++) {
            lookAtChain(court, trace.append("again"));
        }
        trace.append("text ").append(court.fault()).append(' ').append(court.lay());
        look(court, trace);
        return trace.toString();
    }

    private static void look(MouthsToJudge court, StringBuilder trace) {
        for (int what = 0; what < 8; what++) {
            trace.append(' ').append(court.count(what));
        }
        int mouths = court.count(0);
        for (int i = 0; i < mouths; i++) {
            for (int what = 0; what < 5; what++) {
                trace.append(' ').append(court.mouth(i, what));
            }
        }
        int longest = court.best(7, -1);
        for (int i = 0; i < longest; i++) {
            trace.append(' ').append(court.best(7, i));
        }
        lookAtChain(court, trace);
    }

    private static void lookAtChain(MouthsToJudge court, StringBuilder trace) {
        int seated = court.count(1);
        int words = court.count(2);
        trace.append(" (");
        for (int k = 0; k < seated; k++) {
            trace.append(' ').append(court.chain(k));
        }
        trace.append(':');
        for (int i = 0; i < words; i++) {
            trace.append(' ').append(court.said(i, 0));
        }
        trace.append(')');
    }

    /** The draw of a trial, reckoned without any bound on its numbers. */
    static int draw(int z, int i, int k) {
        BigInteger x = BigInteger.valueOf(7919).multiply(BigInteger.valueOf(z))
            .add(BigInteger.valueOf(6151).multiply(BigInteger.valueOf(i)))
            .add(BigInteger.valueOf(3571).multiply(BigInteger.valueOf(k))).add(BigInteger.ONE);
        return x.multiply(x).mod(BigInteger.valueOf(65521)).mod(BigInteger.TEN).intValue();
    }
}
