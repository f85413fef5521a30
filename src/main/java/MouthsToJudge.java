import java.util.Arrays;

/** A court at which a word goes through the mouths of interpreters to the judge. */
public final class MouthsToJudge {
    public static final int BAD = -1, NO = -2, FULL = -3, NONE = -4;

    private static final int MAX_MOUTHS = 7;
    private static final int MAX_WORDS = 12;
    private static final int MAX_BYTES = 200;
    private static final int MAX_UNDONE = 8;
    private static final int MAX_KEPT = 2;

    private static final int TONGUES = 9;
    private static final int KINDS = 6;
    private static final int SENSES = 10;
    private static final int PRICES = 100;
    private static final int DRAWS = 10000;
    private static final int DRAWS_OF_FALLS = 10;

    /** Skill is told in tenths, so a chance through k mouths has 10 to the k below. */
    private static final int FULL_SKILL = 10;

    private static final int TRAITS = 5;
    private static final int KIND = 2;
    private static final int SKILL = 3;
    private static final int PRICE = 4;

    private static final int CONTRARY = 4;
    private static final int SENSE_YES = 1;
    private static final int SENSE_NO = 2;

    /** A row of ten senses for each kind. */
    private static final int[] MADE = {
        0, 1, 2, 3, 4, 5, 6, 7, 8, 9,
        0, 1, 3, 3, 4, 5, 6, 7, 8, 9,
        0, 1, 2, 3, 5, 6, 7, 7, 8, 9,
        0, 1, 2, 3, 4, 5, 6, 7, 9, 9,
        0, 2, 1, 3, 4, 5, 6, 7, 8, 9,
        1, 1, 2, 1, 4, 5, 6, 7, 8, 9,
    };

    private final Script script = new Script();
    private final Hearing hearing = new Hearing();
    private final Steps steps = new Steps();
    private final Hearing keptFirst = new Hearing();
    private final Hearing keptSecond = new Hearing();
    private final Odds odds = new Odds();
    private final Search search = new Search();

    /** Two courts take turns, so that a text can be read without touching what is laid. */
    private Court laid = new Court();
    private Court draft = new Court();
    private int kept = 0;

    public MouthsToJudge() {
        laid.admit(0, 1, 0, FULL_SKILL, 5);
    }

    // ---- courts

    public int write(int n, long v) {
        if (n < 1 || n > 8) {
            return BAD;
        }
        if (script.length() + n > MAX_BYTES) {
            return FULL;
        }
        for (int left = n - 1; left >= 0; left--) {
            script.append((int) (v >>> (8 * left)) & 255);
        }
        return script.length();
    }

    public int wipe() {
        int before = script.length();
        script.clear();
        return before;
    }

    public int fault() {
        return script.readInto(draft);
    }

    public int lay() {
        if (script.readInto(draft) != NONE || draft.mouths() == 0) {
            return NO;
        }
        Court spare = laid;
        laid = draft;
        draft = spare;
        hearing.clear();
        steps.forget();
        search.forget();
        kept = 0;
        return laid.mouths();
    }

    public int mouth(int i, int what) {
        return laid.trait(i, what);
    }

    public int makes(int kind, int s) {
        if (kind < 0 || kind >= KINDS || !isSense(s)) {
            return BAD;
        }
        return turned(kind, s);
    }

    // ---- chains

    public int seat(int i) {
        if (!laid.has(i)) {
            return BAD;
        }
        if (hearing.holds(i)) {
            return NO;
        }
        hearing.sit(i);
        steps.note(Steps.SEATING);
        return hearing.seated();
    }

    public int unseat() {
        if (hearing.seated() == 0) {
            return NO;
        }
        int who = hearing.rise();
        steps.note(who);
        return who;
    }

    public int undo() {
        if (steps.held() == 0) {
            return NO;
        }
        int step = steps.takeLatest();
        if (step == Steps.SEATING) {
            hearing.rise();
        } else {
            hearing.sit(step);
        }
        return steps.held();
    }

    public int chain(int k) {
        if (k < 0) {
            return BAD;
        }
        return hearing.seatAt(k);
    }

    public int judged() {
        int tongue = laid.speaks();
        for (int k = 0; k < hearing.seated(); k++) {
            tongue = laid.across(hearing.seatAt(k), tongue);
            if (tongue == NONE) {
                return k;
            }
        }
        return tongue == laid.hears() ? NONE : hearing.seated();
    }

    public int word(int s) {
        if (!isSense(s)) {
            return BAD;
        }
        if (hearing.spoken() >= MAX_WORDS) {
            return FULL;
        }
        hearing.speak(s);
        return hearing.spoken();
    }

    public int silence() {
        int before = hearing.spoken();
        hearing.hush();
        return before;
    }

    public int said(int i, int k) {
        if (i < 0 || k < 0 || k > hearing.seated()) {
            return BAD;
        }
        if (i >= hearing.spoken()) {
            return NONE;
        }
        return carried(hearing.wordAt(i), k, 0);
    }

    // ---- odds

    public int comes(int s, int t, int part) {
        if (!isSense(s) || !isSense(t) || !isPart(part)) {
            return BAD;
        }
        weighForth();
        return (int) lowest(odds.above(s, t), odds.below(), part);
    }

    public int was(int s, int t, int part) {
        if (!isSense(s) || !isSense(t) || !isPart(part)) {
            return BAD;
        }
        weighForth();
        long all = odds.reaching(t);
        if (all == 0) {
            return NONE;
        }
        return (int) lowest(odds.above(s, t), all, part);
    }

    public long back(int s, int part) {
        if (!isSense(s) || !isPart(part)) {
            return BAD;
        }
        weighForth();
        for (int k = hearing.seated() - 1; k >= 0; k--) {
            weighSeat(k);
        }
        return lowest(odds.above(s, s), odds.below(), part);
    }

    // ---- the best

    public int best(int m, int i) {
        if (m < 1 || m > MAX_MOUTHS || i < -1) {
            return BAD;
        }
        search.look(laid, m);
        int length = search.lengthWithin(m);
        if (length == 0 || i >= length) {
            return NONE;
        }
        return i == -1 ? length : search.memberWithin(m, i);
    }

    public int bribes(int what) {
        if (what < 0 || what > 1) {
            return BAD;
        }
        int set = leastBribes();
        if (set == NONE) {
            return NONE;
        }
        return what == 0 ? priceOf(set) : set;
    }

    public int parrot(int n, int what) {
        if (n < 1 || n > MAX_MOUTHS || what < 0 || what > 2) {
            return BAD;
        }
        if (n > hearing.seated()) {
            return NONE;
        }
        int place = bestToPass(n);
        if (what == 0) {
            return place;
        }
        weighPassing(place, n);
        return (int) lowest(odds.kept(), SENSES * odds.below(), what - 1);
    }

    // ---- trials

    public int trial(int z, int i) {
        if (z < 0 || z >= DRAWS || i < 0) {
            return BAD;
        }
        if (i >= hearing.spoken()) {
            return NONE;
        }
        return tried(z, i);
    }

    public int falls(int z) {
        if (z < 0 || z >= DRAWS) {
            return BAD;
        }
        int due = spokenVerdict();
        int fallen = 0;
        for (int draw = 0; draw < DRAWS_OF_FALLS; draw++) {
            if (triedVerdict((z + draw) % DRAWS) != due) {
                fallen++;
            }
        }
        return fallen;
    }

    public int keep() {
        if (kept >= MAX_KEPT) {
            return FULL;
        }
        keptAt(kept).copyFrom(hearing);
        kept++;
        return kept;
    }

    public int again() {
        if (kept == 0) {
            return NO;
        }
        kept--;
        hearing.copyFrom(keptAt(kept));
        steps.forget();
        return kept;
    }

    public int count(int what) {
        switch (what) {
            case 0: return laid.mouths();
            case 1: return hearing.seated();
            case 2: return hearing.spoken();
            case 3: return steps.held();
            case 4: return kept;
            case 5: return script.length();
            case 6: return laid.speaks();
            case 7: return laid.hears();
            default: return BAD;
        }
    }

    // ---- what the calls share

    private static boolean isSense(int s) {
        return s >= 0 && s < SENSES;
    }

    private static boolean isPart(int part) {
        return part == 0 || part == 1;
    }

    /** What a kind makes of a sense; of what is no kind or sense it makes nothing else. */
    private static int turned(int kind, int s) {
        if (kind < 0 || kind >= KINDS || s < 0 || s >= SENSES) {
            return s;
        }
        return MADE[kind * SENSES + s];
    }

    private static int slipped(int s) {
        return s == SENSES - 1 ? 0 : s + 1;
    }

    /** The part above (0) or below (1) of a fraction in lowest terms. */
    private static long lowest(long above, long below, int part) {
        long shared = sharedDivisor(above, below);
        long whole = part == 0 ? above : below;
        return shared == 0 ? whole : whole / shared;
    }

    private static long sharedDivisor(long a, long b) {
        long x = a;
        long y = b;
        // Two longs need fewer than a hundred turns.
        for (int turn = 0; turn < 100 && y != 0; turn++) {
            long rest = x % y;
            x = y;
            y = rest;
        }
        return x;
    }

    private Hearing keptAt(int place) {
        return place == 0 ? keptFirst : keptSecond;
    }

    /** What a sense becomes by the first k of the chain, those in the set being bribed. */
    private int carried(int s, int k, int bribed) {
        int sense = s;
        for (int place = 0; place < k && place < hearing.seated(); place++) {
            int who = hearing.seatAt(place);
            boolean contrary = (bribed >> who & 1) != 0;
            sense = turned(contrary ? CONTRARY : laid.trait(who, KIND), sense);
        }
        return sense;
    }

    private void weighSeat(int k) {
        int who = hearing.seatAt(k);
        odds.pass(laid.trait(who, KIND), laid.trait(who, SKILL));
    }

    private void weighForth() {
        weighPassing(0, 0);
    }

    /** Weighs the chain without the n from a place on. */
    private void weighPassing(int from, int n) {
        odds.clear();
        for (int k = 0; k < hearing.seated(); k++) {
            if (k < from || k >= from + n) {
                weighSeat(k);
            }
        }
    }

    private int bestToPass(int n) {
        int place = 0;
        long most = -1;
        for (int from = 0; from + n <= hearing.seated(); from++) {
            weighPassing(from, n);
            if (odds.kept() > most) {
                most = odds.kept();
                place = from;
            }
        }
        return place;
    }

    private int leastBribes() {
        int seats = hearing.seatBits();
        int least = NONE;
        for (int set = 0; set < 1 << MAX_MOUTHS; set++) {
            if ((set & ~seats) != 0) {
                continue;
            }
            if (carried(SENSE_NO, hearing.seated(), set) != SENSE_YES) {
                continue;
            }
            if (least == NONE || isCheaper(set, least)) {
                least = set;
            }
        }
        return least;
    }

    /** Sets are met by rising bits, so equals keep the one met first. */
    private boolean isCheaper(int set, int other) {
        int difference = priceOf(set) - priceOf(other);
        if (difference != 0) {
            return difference < 0;
        }
        return Integer.bitCount(set) < Integer.bitCount(other);
    }

    private int priceOf(int set) {
        int sum = 0;
        for (int i = 0; i < laid.mouths(); i++) {
            if ((set >> i & 1) != 0) {
                sum += laid.trait(i, PRICE);
            }
        }
        return sum;
    }

    private int tried(int z, int i) {
        int sense = hearing.wordAt(i);
        for (int k = 0; k < hearing.seated(); k++) {
            int who = hearing.seatAt(k);
            sense = turned(laid.trait(who, KIND), sense);
            if (slips(z, i, k, laid.trait(who, SKILL))) {
                sense = slipped(sense);
            }
        }
        return sense;
    }

    private static boolean slips(int z, int i, int k, int skill) {
        long x = 7919L * z + 6151L * i + 3571L * k + 1;
        return x * x % 65521 % 10 >= skill;
    }

    private static int leaning(int sense) {
        if (sense == SENSE_YES) {
            return 1;
        }
        return sense == SENSE_NO ? -1 : 0;
    }

    private static int verdictOf(int balance) {
        if (balance == 0) {
            return 0;
        }
        return balance > 0 ? 1 : 2;
    }

    private int spokenVerdict() {
        int balance = 0;
        for (int i = 0; i < hearing.spoken(); i++) {
            balance += leaning(hearing.wordAt(i));
        }
        return verdictOf(balance);
    }

    private int triedVerdict(int z) {
        int balance = 0;
        for (int i = 0; i < hearing.spoken(); i++) {
            balance += leaning(tried(z, i));
        }
        return verdictOf(balance);
    }

    /** The text and how it is read. */
    private static final class Script {
        private static final int MOST_NUMBERS = 5;
        private static final int NOTHING = -1;

        private final int[] bytes = new int[MAX_BYTES];
        private final int[] numbers = new int[MOST_NUMBERS];
        private int length = 0;

        int length() {
            return length;
        }

        void clear() {
            length = 0;
        }

        void append(int b) {
            if (length < MAX_BYTES) {
                bytes[length] = b;
                length++;
            }
        }

        /** Fills the court with what is told ahead of the first fault; its place, or NONE. */
        int readInto(Court court) {
            court.clear();
            int place = 0;
            for (int item = 0; item < MAX_BYTES && place < length; item++) {
                int behind = readItem(place, court);
                if (behind == NOTHING) {
                    return place;
                }
                place = behind;
            }
            return NONE;
        }

        /** The place behind an item, or NOTHING if it is at fault. */
        private int readItem(int place, Court court) {
            int letter = byteAt(place);
            int needed = numbersOf(letter);
            if (needed == 0) {
                return NOTHING;
            }
            int at = place + 1;
            for (int k = 0; k < needed && k < MOST_NUMBERS; k++) {
                int figures = figuresAt(at);
                if (figures == 0) {
                    return NOTHING;
                }
                numbers[k] = numberOf(at, figures);
                at += figures;
                if (byteAt(at) != (k + 1 < needed ? ',' : ';')) {
                    return NOTHING;
                }
                at++;
            }
            return enter(letter, court) ? at : NOTHING;
        }

        private boolean enter(int letter, Court court) {
            switch (letter) {
                case 't':
                    return court.speakAndHear(numbers[0], numbers[1]);
                case 'i':
                    return court.admit(numbers[0], numbers[1], numbers[2], numbers[3], numbers[4]);
                case 'h':
                    return court.setAtOdds(numbers[0], numbers[1]);
                default:
                    return false;
            }
        }

        private static int numbersOf(int letter) {
            switch (letter) {
                case 't': return 2;
                case 'i': return MOST_NUMBERS;
                case 'h': return 2;
                default: return 0;
            }
        }

        private int byteAt(int place) {
            return place >= 0 && place < length && place < MAX_BYTES ? bytes[place] : NOTHING;
        }

        private boolean isFigure(int place) {
            int b = byteAt(place);
            return b >= '0' && b <= '9';
        }

        /** How many figures a number here has; a third one is left to be a fault. */
        private int figuresAt(int place) {
            if (!isFigure(place)) {
                return 0;
            }
            return isFigure(place + 1) ? 2 : 1;
        }

        private int numberOf(int place, int figures) {
            int value = 0;
            for (int k = 0; k < figures; k++) {
                value = value * 10 + byteAt(place + k) - '0';
            }
            return value;
        }
    }

    /** The tongues of who speaks and who judges, and the interpreters. */
    private static final class Court {
        private final int[] traits = new int[MAX_MOUTHS * TRAITS];
        private final int[] hated = new int[MAX_MOUTHS];
        private int mouths = 0;
        private int speaks = 0;
        private int hears = 1;

        int mouths() {
            return mouths;
        }

        int speaks() {
            return speaks;
        }

        int hears() {
            return hears;
        }

        boolean has(int i) {
            return i >= 0 && i < mouths && i < MAX_MOUTHS;
        }

        void clear() {
            Arrays.fill(hated, 0);
            mouths = 0;
            speaks = 0;
            hears = 1;
        }

        boolean speakAndHear(int a, int b) {
            if (!isTongue(a) || !isTongue(b)) {
                return false;
            }
            speaks = a;
            hears = b;
            return true;
        }

        boolean admit(int a, int b, int kind, int skill, int price) {
            if (mouths >= MAX_MOUTHS || !isTongue(a) || !isTongue(b) || a == b) {
                return false;
            }
            if (kind < 0 || kind >= KINDS || skill < 0 || skill > FULL_SKILL) {
                return false;
            }
            if (price < 0 || price >= PRICES) {
                return false;
            }
            int at = mouths * TRAITS;
            traits[at] = a;
            traits[at + 1] = b;
            traits[at + KIND] = kind;
            traits[at + SKILL] = skill;
            traits[at + PRICE] = price;
            mouths++;
            return true;
        }

        boolean setAtOdds(int i, int j) {
            if (!has(i) || !has(j) || i == j) {
                return false;
            }
            hated[i] |= 1 << j;
            hated[j] |= 1 << i;
            return true;
        }

        boolean areAtOdds(int i, int j) {
            return has(i) && has(j) && (hated[i] >> j & 1) != 0;
        }

        int trait(int i, int what) {
            if (!has(i) || what < 0 || what >= TRAITS) {
                return BAD;
            }
            return traits[i * TRAITS + what];
        }

        /** The other tongue of one who knows this one, or NONE. */
        int across(int i, int tongue) {
            if (!has(i)) {
                return NONE;
            }
            int a = traits[i * TRAITS];
            int b = traits[i * TRAITS + 1];
            if (a == tongue) {
                return b;
            }
            return b == tongue ? a : NONE;
        }

        private static boolean isTongue(int t) {
            return t >= 0 && t < TONGUES;
        }
    }

    /** The chain and the sentence, which are kept together. */
    private static final class Hearing {
        private final int[] seats = new int[MAX_MOUTHS];
        private final int[] words = new int[MAX_WORDS];
        private int seated = 0;
        private int spoken = 0;

        int seated() {
            return seated;
        }

        int spoken() {
            return spoken;
        }

        void clear() {
            seated = 0;
            spoken = 0;
        }

        void hush() {
            spoken = 0;
        }

        boolean holds(int who) {
            for (int k = 0; k < seated && k < MAX_MOUTHS; k++) {
                if (seats[k] == who) {
                    return true;
                }
            }
            return false;
        }

        int seatBits() {
            int bits = 0;
            for (int k = 0; k < seated && k < MAX_MOUTHS; k++) {
                bits |= 1 << seats[k];
            }
            return bits;
        }

        void sit(int who) {
            if (seated < MAX_MOUTHS) {
                seats[seated] = who;
                seated++;
            }
        }

        int rise() {
            if (seated <= 0) {
                return NONE;
            }
            seated--;
            return seats[seated];
        }

        int seatAt(int k) {
            return k >= 0 && k < seated && k < MAX_MOUTHS ? seats[k] : NONE;
        }

        void speak(int s) {
            if (spoken < MAX_WORDS) {
                words[spoken] = s;
                spoken++;
            }
        }

        int wordAt(int i) {
            return i >= 0 && i < spoken && i < MAX_WORDS ? words[i] : NONE;
        }

        void copyFrom(Hearing other) {
            System.arraycopy(other.seats, 0, seats, 0, MAX_MOUTHS);
            System.arraycopy(other.words, 0, words, 0, MAX_WORDS);
            seated = other.seated;
            spoken = other.spoken;
        }
    }

    /** The latest seatings and unseatings; of an unseating who it was, so that he can sit again. */
    private static final class Steps {
        static final int SEATING = -1;

        private final int[] latest = new int[MAX_UNDONE];
        private int held = 0;

        int held() {
            return held;
        }

        void forget() {
            held = 0;
        }

        void note(int step) {
            if (held >= MAX_UNDONE) {
                System.arraycopy(latest, 1, latest, 0, MAX_UNDONE - 1);
                held = MAX_UNDONE - 1;
            }
            latest[held] = step;
            held++;
        }

        int takeLatest() {
            if (held <= 0) {
                return SEATING;
            }
            held--;
            return latest[held];
        }
    }

    /** In how many of all cases each sense comes as which, as the mouths are passed one by one. */
    private static final class Odds {
        /** A column for each sense that comes, in it a cell for each that was said. */
        private long[] cells = new long[SENSES * SENSES];
        private long[] behind = new long[SENSES * SENSES];
        private long below = 1;

        void clear() {
            Arrays.fill(cells, 0L);
            for (int s = 0; s < SENSES; s++) {
                cells[s * SENSES + s] = 1;
            }
            below = 1;
        }

        void copyFrom(Odds other) {
            System.arraycopy(other.cells, 0, cells, 0, SENSES * SENSES);
            below = other.below;
        }

        void pass(int kind, int skill) {
            Arrays.fill(behind, 0L);
            for (int t = 0; t < SENSES; t++) {
                int made = turned(kind, t);
                pour(t, made, skill);
                pour(t, slipped(made), FULL_SKILL - skill);
            }
            long[] spare = cells;
            cells = behind;
            behind = spare;
            below *= FULL_SKILL;
        }

        private void pour(int from, int into, int tenths) {
            if (tenths == 0 || !isSense(from) || !isSense(into)) {
                return;
            }
            for (int s = 0; s < SENSES; s++) {
                behind[into * SENSES + s] += cells[from * SENSES + s] * tenths;
            }
        }

        long above(int s, int t) {
            return isSense(s) && isSense(t) ? cells[t * SENSES + s] : 0;
        }

        long below() {
            return below;
        }

        long reaching(int t) {
            long sum = 0;
            for (int s = 0; s < SENSES; s++) {
                sum += above(s, t);
            }
            return sum;
        }

        long kept() {
            long sum = 0;
            for (int s = 0; s < SENSES; s++) {
                sum += above(s, s);
            }
            return sum;
        }

        /** What would be kept behind one mouth more; it spares the search most of its passing. */
        long keptBehind(int kind, int skill) {
            long sum = 0;
            for (int t = 0; t < SENSES; t++) {
                int made = turned(kind, t);
                sum += above(made, t) * skill;
                sum += above(slipped(made), t) * (FULL_SKILL - skill);
            }
            return sum;
        }

        /** No mouths behind can keep more: of what comes as one sense, they guess the likeliest. */
        long keptAtMost() {
            long sum = 0;
            for (int t = 0; t < SENSES; t++) {
                long likeliest = 0;
                for (int s = 0; s < SENSES; s++) {
                    likeliest = Math.max(likeliest, cells[t * SENSES + s]);
                }
                sum += likeliest;
            }
            return sum;
        }
    }

    /** The search for the best row; it remembers what it found for each longest length. */
    private static final class Search {
        private static final int UNKNOWN = -1;

        /** By length, so that what is kept by rows of any length is told in the same parts. */
        private static final long[] SCALE = {
            10000000L, 1000000L, 100000L, 10000L, 1000L, 100L, 10L, 1L,
        };

        private final Odds[] levels = new Odds[MAX_MOUTHS];
        private final int[] row = new int[MAX_MOUTHS];
        private final int[] rows = new int[(MAX_MOUTHS + 1) * MAX_MOUTHS];
        private final int[] lengths = new int[MAX_MOUTHS + 1];
        private int limit = 0;
        private long most = -1;

        Search() {
            for (int depth = 0; depth < MAX_MOUTHS; depth++) {
                levels[depth] = new Odds();
            }
            levels[0].clear();
            Arrays.fill(lengths, UNKNOWN);
        }

        void forget() {
            Arrays.fill(lengths, UNKNOWN);
        }

        /** How long the best row of at most m is, 0 if there is none. */
        int lengthWithin(int m) {
            return m >= 0 && m <= MAX_MOUTHS ? Math.max(lengths[m], 0) : 0;
        }

        int memberWithin(int m, int i) {
            if (i < 0 || i >= lengthWithin(m)) {
                return NONE;
            }
            return rows[m * MAX_MOUTHS + i];
        }

        void look(Court court, int m) {
            if (m < 1 || m > MAX_MOUTHS || lengths[m] != UNKNOWN) {
                return;
            }
            limit = m;
            most = -1;
            lengths[m] = 0;
            extend(court, 0, court.speaks(), 0);
        }

        private void extend(Court court, int depth, int tongue, int used) {
            if (depth < 0 || depth >= limit || depth >= MAX_MOUTHS) {
                return;
            }
            for (int i = 0; i < court.mouths(); i++) {
                int heard = court.across(i, tongue);
                if (heard == NONE || (used >> i & 1) != 0) {
                    continue;
                }
                if (depth > 0 && court.areAtOdds(row[depth - 1], i)) {
                    continue;
                }
                row[depth] = i;
                if (heard == court.hears()) {
                    weigh(court, depth);
                }
                if (descend(court, depth)) {
                    extend(court, depth + 1, heard, used | 1 << i);
                }
            }
        }

        private void weigh(Court court, int depth) {
            int who = row[depth];
            long here = levels[depth].keptBehind(court.trait(who, KIND), court.trait(who, SKILL));
            here *= SCALE[depth + 1];
            if (isBetter(here, depth + 1)) {
                most = here;
                lengths[limit] = depth + 1;
                System.arraycopy(row, 0, rows, limit * MAX_MOUTHS, depth + 1);
            }
        }

        /** Makes the next level's odds ready; false, if no row beyond can be better. */
        private boolean descend(Court court, int depth) {
            if (depth + 1 >= limit || depth + 1 >= court.mouths()) {
                return false;
            }
            int who = row[depth];
            Odds next = levels[depth + 1];
            next.copyFrom(levels[depth]);
            next.pass(court.trait(who, KIND), court.trait(who, SKILL));
            return isBetter(next.keptAtMost() * SCALE[depth + 1], depth + 2);
        }

        /** Rows of a length are met in their order, so an equal one counts only if it is shorter. */
        private boolean isBetter(long here, int length) {
            return here > most || here == most && length < lengths[limit];
        }
    }
}
