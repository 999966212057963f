import java.util.ArrayList;
import java.util.NoSuchElementException;

/** A house of songs written down by many hands; README.md tells how to use it. */
public final class TuneHouse {
    /** None; a GAP; refused. */
    public static final int NONE = -1;

    private static final int NO_KEY = 100;
    private static final int NO_HABIT = -1000000;

    private static final int TOP_DAY = 1000;
    private static final int TOP_HAND = 5;
    private static final int TOP_YEAR = 3000;
    private static final int TOP_WORDS = 9;
    private static final int TOP_PITCH = 60;
    private static final int TOP_BEATS = 16;
    private static final int TOP_KEY = 12;
    private static final int TOP_BAR = 10000;
    private static final int TOP_MARGIN = 10000;

    private static final int MOST_SHEETS = 20;
    private static final int MOST_NOTES = 24;
    private static final int MOST_COLUMNS = 2 * MOST_NOTES;
    private static final int MOST_CORRECTIONS = 200;
    private static final int MOST_DOUBLES = 60;
    // Far above the dearest sum: 24 columns of two at 500 each.
    private static final int NO_BOUND = 1000000;

    private final Prices prices = new Prices();
    private final Aligner aligner = new Aligner(prices);
    private final Likeness likeness = new Likeness(aligner);
    private final ArrayList<Sheet> sheets = new ArrayList<Sheet>();
    private final ArrayList<Pair> pairs = new ArrayList<Pair>();
    private final ArrayList<Sheet> kinsfolk = new ArrayList<Sheet>();
    private int now;
    private int forgeries;
    private int notesTold;
    private int corrections;

    public TuneHouse() {
        now = 0;
    }

    public int sheet(int hand, int year, int words) {
        int number = sheets.size();
        if (number >= MOST_SHEETS || !isHand(hand) || !isWithin(year, TOP_YEAR) || !isWords(words)) {
            return NONE;
        }
        sheets.add(new Sheet(number, hand, year, words));
        return number;
    }

    public int note(int sheet, int pitch, int beats) {
        Sheet s = find(sheet);
        if (s == null || !isNote(pitch, beats) || !s.append(pitch, beats)) {
            return NONE;
        }
        notesTold++;
        return s.length();
    }

    public boolean correct(int sheet, int i, int pitch, int beats) {
        Sheet s = find(sheet);
        if (s == null || !s.has(i) || !isNote(pitch, beats) || corrections >= MOST_CORRECTIONS) {
            return false;
        }
        s.amend(new Correction(now, i, pitch, beats));
        corrections++;
        return true;
    }

    public boolean forge(int sheet) {
        Sheet s = find(sheet);
        if (s == null || s.isForgedBy(now)) {
            return false;
        }
        s.markForged(now);
        forgeries++;
        return true;
    }

    public boolean doubles(int one, int other) {
        Sheet a = find(one);
        Sheet b = find(other);
        if (a == null || b == null || a.hand == b.hand) {
            return false;
        }
        if (pairs.size() >= MOST_DOUBLES || isPair(a, b)) {
            return false;
        }
        pairs.add(new Pair(a, b));
        return true;
    }

    public int days(int n) {
        // n is looked at by itself first: the sum of the two could wrap around.
        if (!isWithin(n, TOP_DAY) || now + n > TOP_DAY) {
            return NONE;
        }
        now += n;
        return now;
    }

    public boolean price(int which, int coins) {
        if (!prices.set(which, coins)) {
            return false;
        }
        likeness.forgetAll();
        return true;
    }

    public int at(int sheet, int i, int q, int what) throws NoSuchElementException {
        Sheet s = find(sheet);
        if (s == null || !s.has(i) || !isDay(q) || !isWithin(what, 1)) {
            throw new NoSuchElementException();
        }
        turnTo(q);
        return what == 0 ? s.known.pitchAt(i) : s.known.beatsAt(i);
    }

    public int distance(int one, int other, int q) {
        Sheet t = find(one);
        Sheet u = find(other);
        if (t == null || u == null || !isDay(q)) {
            return NONE;
        }
        turnTo(q);
        return likeness.apart(t, u);
    }

    public int key(int one, int other, int q) {
        Sheet t = find(one);
        Sheet u = find(other);
        if (t == null || u == null || !isDay(q)) {
            return NO_KEY;
        }
        turnTo(q);
        return likeness.toldKey(t, u);
    }

    public int column(int one, int other, int q, int i, int what) {
        Sheet t = find(one);
        Sheet u = find(other);
        if (t == null || u == null || !isDay(q)) {
            return NONE;
        }
        turnTo(q);
        layOut(t, u);
        return aligner.toldOf(i, what);
    }

    public int family(int sheet, int bar, int q) {
        if (!gather(sheet, bar, q)) {
            return NONE;
        }
        int lowest = MOST_SHEETS;
        for (int i = 0; i < kinsfolk.size(); i++) {
            lowest = Math.min(lowest, kinsfolk.get(i).number);
        }
        return lowest;
    }

    public int kin(int sheet, int bar, int q) {
        return gather(sheet, bar, q) ? kinsfolk.size() : NONE;
    }

    public int sung(int sheet, int bar, int q) {
        if (!gather(sheet, bar, q)) {
            return NONE;
        }
        int bits = 0;
        for (int i = 0; i < kinsfolk.size(); i++) {
            bits |= 1 << kinsfolk.get(i).words;
        }
        return bits;
    }

    public int source(int sheet, int q) {
        Sheet s = findTrue(sheet, q);
        if (s == null) {
            return NONE;
        }
        turnTo(q);
        Sheet from = sourceOf(s, q);
        return from == null ? NONE : from.number;
    }

    public int changes(int sheet, int q) {
        Sheet s = findTrue(sheet, q);
        if (s == null) {
            return NONE;
        }
        turnTo(q);
        return changesOf(s, q);
    }

    public int all(int q) {
        if (!isDay(q)) {
            return NONE;
        }
        turnTo(q);
        int sum = 0;
        for (int i = 0; i < sheets.size(); i++) {
            Sheet s = sheets.get(i);
            sum += s.isForgedBy(q) ? 0 : changesOf(s, q);
        }
        return sum;
    }

    public int doubt(int sheet, int margin, int q) {
        Sheet s = findTrue(sheet, q);
        if (s == null || !isWithin(margin, TOP_MARGIN)) {
            return NONE;
        }
        turnTo(q);
        Sheet from = sourceOf(s, q);
        return from == null ? 0 : rivalsOf(s, from, margin, q);
    }

    public int habit(int hand, int other, int q, int what) {
        if (!isHand(hand) || !isHand(other) || hand == other || !isDay(q) || !isWithin(what, 1)) {
            return NO_HABIT;
        }
        turnTo(q);
        int sum = 0;
        for (int i = 0; i < pairs.size(); i++) {
            Pair p = pairs.get(i);
            Sheet t = p.sheetOf(hand);
            Sheet u = p.sheetOf(other);
            if (t != null && u != null && !t.isForgedBy(q) && !u.isForgedBy(q)) {
                sum += habitIn(t, u, what);
            }
        }
        return sum;
    }

    public int span(int words, int q, boolean greatest) {
        if (!isWords(words) || !isDay(q)) {
            return NONE;
        }
        int year = NONE;
        for (int i = 0; i < sheets.size(); i++) {
            Sheet s = sheets.get(i);
            if (s.words == words && !s.isForgedBy(q)) {
                boolean further = greatest ? s.year > year : s.year < year;
                year = year == NONE || further ? s.year : year;
            }
        }
        return year;
    }

    public int count(int what) {
        switch (what) {
            case 0: return now;
            case 1: return sheets.size();
            case 2: return forgeries;
            case 3: return notesTold;
            case 4: return corrections;
            case 5: return pairs.size();
            default: return NONE;
        }
    }

    private static boolean isWithin(int value, int top) {
        return value >= 0 && value <= top;
    }

    private static boolean isHand(int hand) {
        return isWithin(hand, TOP_HAND);
    }

    private static boolean isWords(int words) {
        return isWithin(words, TOP_WORDS);
    }

    private static boolean isNote(int pitch, int beats) {
        return pitch == NONE || isWithin(pitch, TOP_PITCH) && beats >= 1 && beats <= TOP_BEATS;
    }

    private boolean isDay(int q) {
        return isWithin(q, now);
    }

    private boolean isPair(Sheet a, Sheet b) {
        for (int i = 0; i < pairs.size(); i++) {
            if (pairs.get(i).joins(a, b)) {
                return true;
            }
        }
        return false;
    }

    /** The SHEET of that number; null if there is none. */
    private Sheet find(int number) {
        return number >= 0 && number < sheets.size() ? sheets.get(number) : null;
    }

    /** The SHEET of that number; null if there is none, no such day, or it is FORGED then. */
    private Sheet findTrue(int number, int q) {
        Sheet s = find(number);
        return s == null || !isDay(q) || s.isForgedBy(q) ? null : s;
    }

    /** Opens every TUNE as known on day q; distances of those that read differently are forgotten. */
    private void turnTo(int q) {
        for (int i = 0; i < sheets.size(); i++) {
            Sheet s = sheets.get(i);
            if (s.openOn(q)) {
                likeness.forget(s);
            }
        }
    }

    private void layOut(Sheet t, Sheet u) {
        aligner.layOut(t.known, u.known, likeness.toldKey(t, u));
    }

    /** Gathers the FAMILY of a SHEET in kinsfolk; false if it is refused. */
    private boolean gather(int sheet, int bar, int q) {
        kinsfolk.clear();
        Sheet first = findTrue(sheet, q);
        if (first == null || !isWithin(bar, TOP_BAR)) {
            return false;
        }
        turnTo(q);
        kinsfolk.add(first);
        for (int head = 0; head < MOST_SHEETS && head < kinsfolk.size(); head++) {
            addLinked(kinsfolk.get(head), bar, q);
        }
        return true;
    }

    private void addLinked(Sheet from, int bar, int q) {
        for (int i = 0; i < sheets.size(); i++) {
            Sheet s = sheets.get(i);
            if (!s.isForgedBy(q) && !isGathered(s) && likeness.apart(from, s) <= bar) {
                kinsfolk.add(s);
            }
        }
    }

    private boolean isGathered(Sheet s) {
        for (int i = 0; i < kinsfolk.size(); i++) {
            if (kinsfolk.get(i) == s) {
                return true;
            }
        }
        return false;
    }

    /** The SOURCE of a SHEET that is not FORGED; null if there is none. */
    private Sheet sourceOf(Sheet s, int q) {
        Sheet best = null;
        int least = prices.anew();
        for (int i = 0; i < sheets.size(); i++) {
            Sheet e = sheets.get(i);
            if (e.isEarlierThan(s) && !e.isForgedBy(q)) {
                int apart = likeness.apart(s, e);
                boolean asNear = best != null && apart == least;
                if (apart < least || asNear && e.isEarlierThan(best)) {
                    best = e;
                    least = apart;
                }
            }
        }
        return best;
    }

    private int changesOf(Sheet s, int q) {
        Sheet from = sourceOf(s, q);
        return from == null ? prices.anew() : likeness.apart(s, from);
    }

    /** How many EARLIER ones but the SOURCE are as near as it is, or further by the margin at most. */
    private int rivalsOf(Sheet s, Sheet from, int margin, int q) {
        int most = likeness.apart(s, from) + margin;
        int rivals = 0;
        for (int i = 0; i < sheets.size(); i++) {
            Sheet e = sheets.get(i);
            boolean asked = e != from && e.isEarlierThan(s) && !e.isForgedBy(q);
            if (asked && likeness.apart(s, e) <= most) {
                rivals++;
            }
        }
        return rivals;
    }

    private int habitIn(Sheet t, Sheet u, int what) {
        layOut(t, u);
        return what == 0 ? aligner.rise(t.known, u.known) : aligner.met(t.known, u.known);
    }

    /** A row of NOTES; a GAP is a PITCH of NONE with 0 BEATS. */
    private static final class Tune {
        private final int[] pitches = new int[MOST_NOTES];
        private final int[] beats = new int[MOST_NOTES];
        private int length;

        int length() {
            return length;
        }

        boolean has(int i) {
            return i >= 0 && i < length;
        }

        /** NONE of a GAP, and where there is no NOTE. */
        int pitchAt(int i) {
            return i >= 0 && i < length ? pitches[i] : NONE;
        }

        int beatsAt(int i) {
            return i >= 0 && i < length ? beats[i] : 0;
        }

        boolean append(int pitch, int beatsOfIt) {
            if (length >= MOST_NOTES) {
                return false;
            }
            length++;
            put(length - 1, pitch, beatsOfIt);
            return true;
        }

        void put(int i, int pitch, int beatsOfIt) {
            if (has(i)) {
                pitches[i] = pitch;
                beats[i] = pitch == NONE ? 0 : beatsOfIt;
            }
        }

        void copy(Tune from) {
            length = from.length;
            for (int i = 0; i < length; i++) {
                pitches[i] = from.pitches[i];
                beats[i] = from.beats[i];
            }
        }
    }

    /** What a NOTE of one SHEET reads from a day on. */
    private static final class Correction {
        final int since;
        final int place;
        final int pitch;
        final int beats;

        Correction(int since, int place, int pitch, int beats) {
            this.since = since;
            this.place = place;
            this.pitch = pitch;
            this.beats = beats;
        }
    }

    /** A SHEET: its TUNE as first told, its corrections by day, and its TUNE as known on the open day. */
    private static final class Sheet {
        final int number;
        final int hand;
        final int year;
        final int words;
        final Tune known = new Tune();
        private final Tune told = new Tune();
        private final ArrayList<Correction> amended = new ArrayList<Correction>();
        private int applied;
        private int forgedOn = NONE;

        Sheet(int number, int hand, int year, int words) {
            this.number = number;
            this.hand = hand;
            this.year = year;
            this.words = words;
        }

        int length() {
            return told.length();
        }

        boolean has(int i) {
            return told.has(i);
        }

        boolean append(int pitch, int beats) {
            return told.append(pitch, beats);
        }

        void amend(Correction c) {
            amended.add(c);
        }

        void markForged(int day) {
            forgedOn = day;
        }

        boolean isForgedBy(int day) {
            return forgedOn != NONE && forgedOn <= day;
        }

        boolean isEarlierThan(Sheet other) {
            return year < other.year || year == other.year && number < other.number;
        }

        /** Makes the known TUNE that of the day; true if another one was open before. */
        boolean openOn(int day) {
            int due = amendedBy(day);
            // NOTES and corrections are only ever added behind others, so that
            // as many of both make the same TUNE.
            if (due == applied && known.length() == told.length()) {
                return false;
            }
            known.copy(told);
            for (int i = 0; i < due && i < amended.size(); i++) {
                Correction c = amended.get(i);
                known.put(c.place, c.pitch, c.beats);
            }
            applied = due;
            return true;
        }

        private int amendedBy(int day) {
            int due = 0;
            while (due < amended.size() && amended.get(due).since <= day) {
                due++;
            }
            return due;
        }
    }

    /** Two SHEETS of two HANDS, told as DOUBLES. */
    private static final class Pair {
        private final Sheet one;
        private final Sheet other;

        Pair(Sheet one, Sheet other) {
            this.one = one;
            this.other = other;
        }

        boolean joins(Sheet a, Sheet b) {
            return one == a && other == b || one == b && other == a;
        }

        /** The SHEET that this HAND wrote; null if neither is. */
        Sheet sheetOf(int hand) {
            if (one.hand == hand) {
                return one;
            }
            return other.hand == hand ? other : null;
        }
    }

    /** The PRICES, and what COLUMNS cost by them. */
    private static final class Prices {
        private static final int STEP = 0;
        private static final int MOST = 1;
        private static final int BEAT = 2;
        private static final int OUT = 3;
        private static final int ANEW = 4;
        private static final int[] TOPS = {20, 200, 20, 200, 10000};
        private final int[] coins = {2, 8, 1, 5, 30};

        boolean set(int which, int amount) {
            if (which < 0 || which >= TOPS.length || which >= coins.length) {
                return false;
            }
            if (!isWithin(amount, TOPS[which])) {
                return false;
            }
            coins[which] = amount;
            return true;
        }

        int anew() {
            return coins[ANEW];
        }

        int out() {
            return coins[OUT];
        }

        /** Of two NOTES that are no GAPS, so far off in PITCH with the KEY, and in BEATS. */
        int ofNotes(int off, int late) {
            int climb = coins[STEP] * (off < 0 ? -off : off);
            int lag = coins[BEAT] * (late < 0 ? -late : late);
            return (climb < coins[MOST] ? climb : coins[MOST]) + lag;
        }

        int ofTwo(Tune t, int i, Tune u, int j, int k) {
            int pitch = t.pitchAt(i);
            int met = u.pitchAt(j);
            if (pitch == NONE || met == NONE) {
                return 0;
            }
            return ofNotes(pitch + k - met, t.beatsAt(i) - u.beatsAt(j));
        }

        int ofOne(Tune t, int i) {
            return t.pitchAt(i) == NONE ? 0 : coins[OUT];
        }
    }

    /** Sums up ALIGNMENTS of two TUNES, and lays out the one told with a KEY. */
    private static final class Aligner {
        private final Prices prices;
        // sums[i][j] is the least sum of the first i NOTES of t and the first j of u.
        private final int[][] sums = new int[MOST_NOTES + 1][MOST_NOTES + 1];
        // The columns of the ALIGNMENT laid out, from the last one back.
        private final int[] ofT = new int[MOST_COLUMNS];
        private final int[] ofU = new int[MOST_COLUMNS];
        private final int[] costs = new int[MOST_COLUMNS];
        private int columns;
        private int laidKey;

        Aligner(Prices prices) {
            this.prices = prices;
        }

        /** The least sum with a KEY, if it is below the bound; else the bound or more. */
        int leastSum(Tune t, Tune u, int k, int bound) {
            // Most of a run's work is done here: it reads the rows themselves, and calls little.
            int out = prices.out();
            int rows = Math.min(t.length, MOST_NOTES);
            int places = Math.min(u.length, MOST_NOTES);
            fillFirstRow(u, places, out);
            for (int i = 1; i <= rows; i++) {
                int[] above = sums[i - 1];
                int[] row = sums[i];
                int pitch = t.pitches[i - 1];
                int beats = t.beats[i - 1];
                int alone = pitch == NONE ? 0 : out;
                row[0] = above[0] + alone;
                int least = row[0];
                for (int j = 1; j <= places; j++) {
                    int two = above[j - 1];
                    int other = row[j - 1];
                    int met = u.pitches[j - 1];
                    if (met != NONE) {
                        other += out;
                        two += pitch == NONE ? 0 : prices.ofNotes(pitch + k - met, beats - u.beats[j - 1]);
                    }
                    int sum = above[j] + alone;
                    sum = other < sum ? other : sum;
                    sum = two < sum ? two : sum;
                    row[j] = sum;
                    least = sum < least ? sum : least;
                }
                // Sums never fall on the way: past a row that is dear throughout all is dear.
                if (least >= bound) {
                    return bound;
                }
            }
            return sums[rows][places];
        }

        private void fillFirstRow(Tune u, int places, int out) {
            int[] row = sums[0];
            row[0] = 0;
            for (int j = 1; j <= places; j++) {
                row[j] = row[j - 1] + (u.pitches[j - 1] == NONE ? 0 : out);
            }
        }

        /** Lays out the ALIGNMENT told with this KEY. */
        void layOut(Tune t, Tune u, int k) {
            leastSum(t, u, k, NO_BOUND);
            laidKey = k;
            columns = 0;
            int i = Math.min(t.length(), MOST_NOTES);
            int j = Math.min(u.length(), MOST_NOTES);
            while ((i > 0 || j > 0) && columns < MOST_COLUMNS) {
                if (i > 0 && j > 0 && takesTwo(t, i, u, j, k)) {
                    i--;
                    j--;
                    put(i, j, prices.ofTwo(t, i, u, j, k));
                } else if (i > 0 && (j == 0 || takesOne(t, i, j))) {
                    i--;
                    put(i, NONE, prices.ofOne(t, i));
                } else {
                    j--;
                    put(NONE, j, prices.ofOne(u, j));
                }
            }
        }

        private boolean takesTwo(Tune t, int i, Tune u, int j, int k) {
            return sums[i][j] == sums[i - 1][j - 1] + prices.ofTwo(t, i - 1, u, j - 1, k);
        }

        private boolean takesOne(Tune t, int i, int j) {
            return sums[i][j] == sums[i - 1][j] + prices.ofOne(t, i - 1);
        }

        private void put(int i, int j, int cost) {
            ofT[columns] = i;
            ofU[columns] = j;
            costs[columns] = cost;
            columns++;
        }

        /** What is told of column i, counted from the first one on; NONE for others. */
        int toldOf(int i, int what) {
            if (i < 0 || i >= columns) {
                return NONE;
            }
            int back = columns - 1 - i;
            switch (what) {
                case 0: return ofT[back];
                case 1: return ofU[back];
                case 2: return costs[back];
                default: return NONE;
            }
        }

        /** The sum of PITCH of t and KEY less PITCH of u, where two NOTES meet. */
        int rise(Tune t, Tune u) {
            int sum = 0;
            for (int c = 0; c < columns; c++) {
                if (isMeeting(t, u, c)) {
                    sum += t.pitchAt(ofT[c]) + laidKey - u.pitchAt(ofU[c]);
                }
            }
            return sum;
        }

        /** In how many columns two NOTES meet. */
        int met(Tune t, Tune u) {
            int meetings = 0;
            for (int c = 0; c < columns; c++) {
                meetings += isMeeting(t, u, c) ? 1 : 0;
            }
            return meetings;
        }

        private boolean isMeeting(Tune t, Tune u, int c) {
            // A column of one alone has NONE for the other, which reads like a GAP.
            return t.pitchAt(ofT[c]) != NONE && u.pitchAt(ofU[c]) != NONE;
        }
    }

    /** DISTANCES and KEYS told of the TUNES as they are open, kept until one of them changes. */
    private static final class Likeness {
        private final Aligner aligner;
        private final boolean[] isKept = new boolean[MOST_SHEETS * MOST_SHEETS];
        private final int[] sums = new int[MOST_SHEETS * MOST_SHEETS];
        private final int[] keys = new int[MOST_SHEETS * MOST_SHEETS];

        Likeness(Aligner aligner) {
            this.aligner = aligner;
        }

        int apart(Sheet t, Sheet u) {
            // The DISTANCE is the same either way round, so that half of them will do.
            return t.number <= u.number ? sums[learn(t, u)] : sums[learn(u, t)];
        }

        int toldKey(Sheet t, Sheet u) {
            return keys[learn(t, u)];
        }

        void forget(Sheet s) {
            for (int i = 0; i < MOST_SHEETS; i++) {
                isKept[s.number * MOST_SHEETS + i] = false;
                isKept[i * MOST_SHEETS + s.number] = false;
            }
        }

        void forgetAll() {
            for (int i = 0; i < isKept.length; i++) {
                isKept[i] = false;
            }
        }

        /** Sees to it that the two are kept, and answers where. */
        private int learn(Sheet t, Sheet u) {
            int place = t.number * MOST_SHEETS + u.number;
            if (isKept[place]) {
                return place;
            }
            int least = NO_BOUND;
            // Keys nearest to 0 come first, the lower of two before the other:
            // the first with the least sum is the one told.
            for (int n = 0; n <= 2 * TOP_KEY && least > 0; n++) {
                int k = n % 2 == 0 ? n / 2 : -(n + 1) / 2;
                int sum = aligner.leastSum(t.known, u.known, k, least);
                if (sum < least) {
                    least = sum;
                    keys[place] = k;
                }
            }
            sums[place] = least;
            isKept[place] = true;
            return place;
        }
    }
}
