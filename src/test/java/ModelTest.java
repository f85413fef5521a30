import java.math.BigInteger;
import java.util.ArrayDeque;
import java.util.ArrayList;
import java.util.Deque;
import java.util.List;
import java.util.Random;
import java.util.regex.Matcher;
import java.util.regex.Pattern;

/** Drawn runs of calls, each answer held against a slow model that reckons it another way. */
public final class ModelTest {
    private static final int BAD = -1, NO = -2, FULL = -3, NONE = -4;
    private static final int RUNS = 400;
    /** A step makes up to three calls; a run stays below the 512 that an object is made for. */
    private static final int STEPS = 400;
    private static final int CALLS = 512;

    public static void main(String[] args) {
        int wrong = 0;
        for (int run = 0; run < RUNS && wrong < 20; run++) {
            wrong += new Run(run).play();
        }
        System.out.println(wrong == 0 ? "all answers are as the model's" : "the model differs");
        if (wrong != 0) {
            System.exit(1);
        }
    }

    /** One object's calls. The seed is fixed, so that each run is the same each time. */
    private static final class Run {
        private final int number;
        private final Random random;
        private final MouthsToJudge real = new MouthsToJudge();
        private final Model model = new Model();
        private String pending = "";
        private int calls = 0;

        Run(int number) {
            this.number = number;
            this.random = new Random(7000L + number);
        }

        int play() {
            for (int call = 0; call < STEPS && calls + 3 <= CALLS; call++) {
                if (!step(call)) {
                    return 1;
                }
            }
            return 0;
        }

        private boolean same(int call, String what, long got, long want) {
            calls++;
            if (got != want) {
                System.out.println("run " + number + ", call " + call + ": " + what + " answered "
                    + got + ", due is " + want);
            }
            return got == want;
        }

        private int near(int low, int high) {
            int draw = random.nextInt(40);
            if (draw == 0) {
                return low - 1;
            }
            if (draw == 1) {
                return high + 1;
            }
            if (draw == 2) {
                return random.nextInt();
            }
            return low + random.nextInt(high - low + 1);
        }

        private boolean step(int call) {
            if (!pending.isEmpty()) {
                return writeSome(call);
            }
            int draw = random.nextInt(100);
            if (draw < 4) {
                return newText(call);
            }
            if (draw < 50) {
                return chains(call, draw);
            }
            return answers(call, draw);
        }

        private boolean newText(int call) {
            pending = drawText();
            return same(call, "wipe()", real.wipe(), model.wipe());
        }

        private boolean writeSome(int call) {
            int n = Math.min(pending.length(), 8);
            long v = random.nextInt(2) == 0 ? 0 : -1;
            for (int k = 0; k < n; k++) {
                v = v << 8 | pending.charAt(k);
            }
            pending = pending.substring(n);
            boolean fine = same(call, "write", real.write(n, v), model.write(n, v));
            if (!pending.isEmpty()) {
                return fine;
            }
            return fine && same(call, "fault()", real.fault(), model.fault())
                && same(call, "lay()", real.lay(), model.lay());
        }

        private int few(int most) {
            return random.nextInt(most + 1);
        }

        private String drawText() {
            StringBuilder text = new StringBuilder();
            int tongues = 1 + random.nextInt(3);
            int mouths = 1 + few(random.nextInt(4) == 0 ? 7 : 6);
            int told = 0;
            text.append(random.nextInt(5) == 0 ? "" : "t" + few(tongues) + "," + few(tongues) + ";");
            while (told < mouths && text.length() < 170) {
                int a = few(tongues);
                int b = (a + 1 + random.nextInt(tongues)) % (tongues + 1);
                text.append("i" + a + "," + b + "," + few(5) + "," + skill() + ","
                    + few(random.nextInt(2) == 0 ? 3 : 99) + ";");
                told++;
                if (told > 1 && random.nextInt(3) == 0) {
                    int i = random.nextInt(told);
                    text.append("h" + i + "," + (i + 1 + random.nextInt(told - 1)) % told + ";");
                }
            }
            if (random.nextInt(4) == 0) {
                int at = random.nextInt(text.length());
                text.setCharAt(at, "0123456789,;thix\u0000\u00ff".charAt(random.nextInt(18)));
            }
            return text.toString();
        }

        private int skill() {
            int[] liked = {10, 10, 9, 5, 0};
            return random.nextInt(2) == 0 ? few(10) : liked[random.nextInt(5)];
        }

        private boolean chains(int call, int draw) {
            if (draw < 18) {
                int i = near(0, 6);
                return same(call, "seat(" + i + ")", real.seat(i), model.seat(i));
            }
            if (draw < 21) {
                return same(call, "unseat()", real.unseat(), model.unseat());
            }
            if (draw < 25) {
                return same(call, "undo()", real.undo(), model.undo());
            }
            if (draw < 34) {
                int s = near(0, 9);
                s = random.nextInt(2) == 0 ? 1 + few(1) : s;
                return same(call, "word(" + s + ")", real.word(s), model.word(s));
            }
            if (draw < 35) {
                return same(call, "silence()", real.silence(), model.silence());
            }
            if (draw < 37) {
                return same(call, "keep()", real.keep(), model.keep());
            }
            if (draw < 39) {
                return same(call, "again()", real.again(), model.again());
            }
            if (draw < 41) {
                return same(call, "judged()", real.judged(), model.judged());
            }
            if (draw < 44) {
                int k = near(0, 6);
                return same(call, "chain(" + k + ")", real.chain(k), model.chain(k));
            }
            if (draw < 47) {
                int i = near(0, 11);
                int k = near(0, 4);
                return same(call, "said(" + i + ", " + k + ")", real.said(i, k), model.said(i, k));
            }
            int what = near(0, 7);
            return same(call, "count(" + what + ")", real.count(what), model.count(what));
        }

        private boolean answers(int call, int draw) {
            int s = near(0, 9);
            int t = near(0, 9);
            int part = near(0, 1);
            if (draw < 58) {
                return same(call, "comes(" + s + ", " + t + ", " + part + ")",
                    real.comes(s, t, part), model.comes(s, t, part));
            }
            if (draw < 65) {
                return same(call, "was(" + s + ", " + t + ", " + part + ")",
                    real.was(s, t, part), model.was(s, t, part));
            }
            if (draw < 70) {
                return same(call, "back(" + s + ", " + part + ")", real.back(s, part),
                    model.back(s, part));
            }
            if (draw < 74) {
                return best(call);
            }
            if (draw < 79) {
                int what = near(0, 1);
                return same(call, "bribes(" + what + ")", real.bribes(what), model.bribes(what));
            }
            if (draw < 85) {
                int n = near(1, random.nextInt(2) == 0 ? 7 : 3);
                int what = near(0, 2);
                return same(call, "parrot(" + n + ", " + what + ")", real.parrot(n, what),
                    model.parrot(n, what));
            }
            return trials(call, draw);
        }

        private boolean best(int call) {
            int m = near(1, 7);
            int i = near(-1, 7);
            return same(call, "best(" + m + ", " + i + ")", real.best(m, i), model.best(m, i));
        }

        private boolean trials(int call, int draw) {
            int z = near(0, 9999);
            if (draw < 92) {
                int i = near(0, 11);
                return same(call, "trial(" + z + ", " + i + ")", real.trial(z, i),
                    model.trial(z, i));
            }
            if (draw < 97) {
                return same(call, "falls(" + z + ")", real.falls(z), model.falls(z));
            }
            if (draw < 98) {
                int kind = near(0, 5);
                int s = near(0, 9);
                return same(call, "makes", real.makes(kind, s), model.makes(kind, s));
            }
            int i = near(0, 6);
            int what = near(0, 4);
            return same(call, "mouth(" + i + ", " + what + ")", real.mouth(i, what),
                model.mouth(i, what));
        }
    }

    /** What keep() keeps. */
    private record Held(List<Integer> chain, List<Integer> sentence) {
        Held {
            chain = List.copyOf(chain);
            sentence = List.copyOf(sentence);
        }
    }

    private static final class Model {
        private static final Pattern ITEM = Pattern.compile(
            "t(\\d\\d?),(\\d\\d?);|i(\\d\\d?),(\\d\\d?),(\\d\\d?),(\\d\\d?),(\\d\\d?);|h(\\d\\d?),(\\d\\d?);");

        private String text = "";
        private List<int[]> mouths = List.of(new int[] {0, 1, 0, 10, 5});
        private List<int[]> hates = List.of();
        private int speaks = 0;
        private int hears = 1;
        private List<Integer> chain = new ArrayList<>();
        private List<Integer> sentence = new ArrayList<>();
        private final Deque<List<Integer>> before = new ArrayDeque<>();
        private final Deque<Held> held = new ArrayDeque<>();

        int write(int n, long v) {
            if (n < 1 || n > 8) {
                return BAD;
            }
            StringBuilder more = new StringBuilder();
            for (int k = 0; k < n; k++) {
                more.insert(0, (char) (v >> 8 * k & 0xff));
            }
            if (text.length() + n > 200) {
                return FULL;
            }
            text += more;
            return text.length();
        }

        int wipe() {
            int length = text.length();
            text = "";
            return length;
        }

        int fault() {
            return read(new ArrayList<>(), new ArrayList<>(), new int[2]);
        }

        private int read(List<int[]> is, List<int[]> hs, int[] ts) {
            Matcher items = ITEM.matcher(text);
            int at = 0;
            while (at < text.length()) {
                items.region(at, text.length());
                if (!items.lookingAt() || !admits(items, is, hs, ts)) {
                    return at;
                }
                at = items.end();
            }
            return NONE;
        }

        private static boolean admits(Matcher item, List<int[]> is, List<int[]> hs, int[] ts) {
            List<Integer> told = new ArrayList<>();
            for (int g = 1; g <= item.groupCount(); g++) {
                if (item.group(g) != null) {
                    told.add(Integer.parseInt(item.group(g)));
                }
            }
            int[] n = told.stream().mapToInt(x -> x).toArray();
            switch (item.group().charAt(0)) {
                case 't':
                    ts[0] = n[0];
                    ts[1] = n[1];
                    return n[0] < 9 && n[1] < 9;
                case 'i':
                    is.add(n);
                    return is.size() < 8 && n[0] < 9 && n[1] < 9 && n[0] != n[1] && n[2] < 6
                        && n[3] < 11;
                default:
                    hs.add(n);
                    return n[0] != n[1] && n[0] < is.size() && n[1] < is.size();
            }
        }

        int lay() {
            List<int[]> is = new ArrayList<>();
            List<int[]> hs = new ArrayList<>();
            int[] ts = {0, 1};
            if (read(is, hs, ts) != NONE || is.isEmpty()) {
                return NO;
            }
            mouths = is;
            hates = hs;
            speaks = ts[0];
            hears = ts[1];
            chain = new ArrayList<>();
            sentence = new ArrayList<>();
            before.clear();
            held.clear();
            return is.size();
        }

        int mouth(int i, int what) {
            return i < 0 || i >= mouths.size() || what < 0 || what > 4 ? BAD : mouths.get(i)[what];
        }

        int makes(int kind, int s) {
            return kind < 0 || kind > 5 || s < 0 || s > 9 ? BAD : made(kind, s);
        }

        private static int made(int kind, int s) {
            if (kind == 1 && s == 2) {
                return 3;
            }
            if (kind == 2 && s >= 4 && s <= 6) {
                return s + 1;
            }
            if (kind == 3 && s == 8) {
                return 9;
            }
            if (kind == 4 && (s == 1 || s == 2)) {
                return 3 - s;
            }
            return kind == 5 && (s == 0 || s == 3) ? 1 : s;
        }

        private void change(List<Integer> to) {
            before.push(chain);
            if (before.size() > 8) {
                before.removeLast();
            }
            chain = to;
        }

        int seat(int i) {
            if (i < 0 || i >= mouths.size()) {
                return BAD;
            }
            if (chain.contains(i)) {
                return NO;
            }
            List<Integer> longer = new ArrayList<>(chain);
            longer.add(i);
            change(longer);
            return chain.size();
        }

        int unseat() {
            if (chain.isEmpty()) {
                return NO;
            }
            int who = chain.get(chain.size() - 1);
            change(new ArrayList<>(chain.subList(0, chain.size() - 1)));
            return who;
        }

        int undo() {
            if (before.isEmpty()) {
                return NO;
            }
            chain = before.pop();
            return before.size();
        }

        int chain(int k) {
            if (k < 0) {
                return BAD;
            }
            return k < chain.size() ? chain.get(k) : NONE;
        }

        int judged() {
            return judged(chain);
        }

        private int judged(List<Integer> row) {
            int tongue = speaks;
            for (int k = 0; k < row.size(); k++) {
                int[] who = mouths.get(row.get(k));
                if (who[0] != tongue && who[1] != tongue) {
                    return k;
                }
                tongue = who[0] + who[1] - tongue;
            }
            return tongue == hears ? NONE : row.size();
        }

        int word(int s) {
            if (s < 0 || s > 9) {
                return BAD;
            }
            if (sentence.size() == 12) {
                return FULL;
            }
            sentence.add(s);
            return sentence.size();
        }

        int silence() {
            int words = sentence.size();
            sentence = new ArrayList<>();
            return words;
        }

        int said(int i, int k) {
            if (i < 0 || k < 0 || k > chain.size()) {
                return BAD;
            }
            if (i >= sentence.size()) {
                return NONE;
            }
            int s = sentence.get(i);
            for (int who : chain.subList(0, k)) {
                s = made(mouths.get(who)[2], s);
            }
            return s;
        }

        /** In how many of 10 to the length of the row s becomes t: by every way of slipping. */
        private long ways(List<Integer> row, int s, int t) {
            if (row.isEmpty()) {
                return s == t ? 1 : 0;
            }
            int[] who = mouths.get(row.get(0));
            int heard = made(who[2], s);
            List<Integer> rest = row.subList(1, row.size());
            long sum = 0;
            if (who[3] > 0) {
                sum += who[3] * ways(rest, heard, t);
            }
            if (who[3] < 10) {
                sum += (10 - who[3]) * ways(rest, (heard + 1) % 10, t);
            }
            return sum;
        }

        private static long reduced(BigInteger above, BigInteger below, int part) {
            BigInteger shared = above.gcd(below);
            return (part == 0 ? above : below).divide(shared).longValueExact();
        }

        private static long reduced(long above, long below, int part) {
            return reduced(BigInteger.valueOf(above), BigInteger.valueOf(below), part);
        }

        private static long tens(int k) {
            return BigInteger.TEN.pow(k).longValueExact();
        }

        private static boolean wrong(int s, int t, int part) {
            return s < 0 || s > 9 || t < 0 || t > 9 || part < 0 || part > 1;
        }

        long comes(int s, int t, int part) {
            if (wrong(s, t, part)) {
                return BAD;
            }
            return reduced(ways(chain, s, t), tens(chain.size()), part);
        }

        long was(int s, int t, int part) {
            if (wrong(s, t, part)) {
                return BAD;
            }
            long all = 0;
            for (int from = 0; from < 10; from++) {
                all += ways(chain, from, t);
            }
            return all == 0 ? NONE : reduced(ways(chain, s, t), all, part);
        }

        long back(int s, int part) {
            if (wrong(s, 0, part)) {
                return BAD;
            }
            List<Integer> turned = new ArrayList<>();
            for (int who : chain) {
                turned.add(0, who);
            }
            long sum = 0;
            for (int t = 0; t < 10; t++) {
                sum += ways(chain, s, t) * ways(turned, t, s);
            }
            return reduced(sum, tens(2 * chain.size()), part);
        }

        private BigInteger keptWays(List<Integer> row) {
            long sum = 0;
            for (int s = 0; s < 10; s++) {
                sum += ways(row, s, s);
            }
            return BigInteger.valueOf(sum);
        }

        private boolean hate(int i, int j) {
            for (int[] h : hates) {
                if (h[0] == i && h[1] == j || h[0] == j && h[1] == i) {
                    return true;
                }
            }
            return false;
        }

        private boolean peaceful(List<Integer> row) {
            for (int k = 1; k < row.size(); k++) {
                if (hate(row.get(k - 1), row.get(k))) {
                    return false;
                }
            }
            return true;
        }

        /** All rows of a length in their order. */
        private List<List<Integer>> rowsOf(int length) {
            List<List<Integer>> rows = List.of(List.of());
            for (int k = 0; k < length; k++) {
                List<List<Integer>> longer = new ArrayList<>();
                for (List<Integer> row : rows) {
                    for (int i = 0; i < mouths.size(); i++) {
                        if (!row.contains(i)) {
                            List<Integer> more = new ArrayList<>(row);
                            more.add(i);
                            longer.add(more);
                        }
                    }
                }
                rows = longer;
            }
            return rows;
        }

        int best(int m, int i) {
            if (m < 1 || m > 7 || i < -1) {
                return BAD;
            }
            List<Integer> best = null;
            BigInteger most = null;
            for (int length = 1; length <= m; length++) {
                for (List<Integer> row : rowsOf(length)) {
                    if (judged(row) != NONE || !peaceful(row)) {
                        continue;
                    }
                    BigInteger kept = keptWays(row).multiply(BigInteger.TEN.pow(20 - length));
                    if (best == null || kept.compareTo(most) > 0) {
                        best = row;
                        most = kept;
                    }
                }
            }
            if (best == null || i >= best.size()) {
                return NONE;
            }
            return i == -1 ? best.size() : best.get(i);
        }

        /** Among all sets the least by sum, then by how many, then by bits: one number tells. */
        int bribes(int what) {
            if (what < 0 || what > 1) {
                return BAD;
            }
            long least = Long.MAX_VALUE;
            for (int places = 0; places < 1 << chain.size(); places++) {
                int s = 2;
                long sum = 0;
                long bits = 0;
                for (int k = 0; k < chain.size(); k++) {
                    boolean bribed = (places & 1 << k) != 0;
                    int[] who = mouths.get(chain.get(k));
                    s = made(bribed ? 4 : who[2], s);
                    sum += bribed ? who[4] : 0;
                    bits += bribed ? 1L << chain.get(k) : 0;
                }
                if (s == 1) {
                    least = Math.min(least, sum * 100000 + Long.bitCount(bits) * 1000L + bits);
                }
            }
            if (least == Long.MAX_VALUE) {
                return NONE;
            }
            return (int) (what == 0 ? least / 100000 : least % 1000);
        }

        long parrot(int n, int what) {
            if (n < 1 || n > 7 || what < 0 || what > 2) {
                return BAD;
            }
            if (n > chain.size()) {
                return NONE;
            }
            int place = -1;
            BigInteger most = BigInteger.valueOf(-1);
            for (int k = 0; k <= chain.size() - n; k++) {
                List<Integer> others = new ArrayList<>(chain.subList(0, k));
                others.addAll(chain.subList(k + n, chain.size()));
                BigInteger kept = keptWays(others);
                if (kept.compareTo(most) > 0) {
                    most = kept;
                    place = k;
                }
            }
            if (what == 0) {
                return place;
            }
            return reduced(most, BigInteger.TEN.pow(chain.size() - n + 1), what - 1);
        }

        private int drawn(int z, int i) {
            int s = sentence.get(i);
            for (int k = 0; k < chain.size(); k++) {
                int[] who = mouths.get(chain.get(k));
                s = made(who[2], s);
                BigInteger x = BigInteger.valueOf(7919L * z + 6151L * i + 3571L * k + 1);
                int draw = x.multiply(x).mod(BigInteger.valueOf(65521)).intValue() % 10;
                if (draw >= who[3]) {
                    s = (s + 1) % 10;
                }
            }
            return s;
        }

        int trial(int z, int i) {
            if (z < 0 || z > 9999 || i < 0) {
                return BAD;
            }
            return i < sentence.size() ? drawn(z, i) : NONE;
        }

        private static int verdict(List<Integer> senses) {
            long yes = senses.stream().filter(s -> s == 1).count();
            long no = senses.stream().filter(s -> s == 2).count();
            return yes > no ? 1 : yes < no ? 2 : 0;
        }

        int falls(int z) {
            if (z < 0 || z > 9999) {
                return BAD;
            }
            int fallen = 0;
            for (int d = 0; d < 10; d++) {
                List<Integer> came = new ArrayList<>();
                for (int i = 0; i < sentence.size(); i++) {
                    came.add(drawn(z + d < 10000 ? z + d : z + d - 10000, i));
                }
                fallen += verdict(came) == verdict(sentence) ? 0 : 1;
            }
            return fallen;
        }

        int keep() {
            if (held.size() == 2) {
                return FULL;
            }
            held.push(new Held(chain, sentence));
            return held.size();
        }

        int again() {
            if (held.isEmpty()) {
                return NO;
            }
            Held last = held.pop();
            chain = new ArrayList<>(last.chain());
            sentence = new ArrayList<>(last.sentence());
            before.clear();
            return held.size();
        }

        int count(int what) {
            int[] counts = {mouths.size(), chain.size(), sentence.size(), before.size(),
                held.size(), text.length(), speaks, hears};
            return what < 0 || what > 7 ? BAD : counts[what];
        }
    }
}
