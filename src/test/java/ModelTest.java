import java.util.NoSuchElementException;
import java.util.Random;

/** Runs of 503 to 512 calls, the same ones each time, on a TuneHouse and on the Model beside it. */
public final class ModelTest {
    private static final int RUNS = Integer.getInteger("runs", 32);
    private static final int CALLS = 512;
    private static final int MOST_AT_ONCE = 10;
    private static final Checks is = new Checks();
    private static Random dice;
    private static TuneHouse x;
    private static Model m;
    private static int mostNotes;
    private static int lowPitch;
    private static int pitches;

    public static void main(String[] args) {
        for (int run = 0; run < RUNS && !is.isAnyWrong(); run++) {
            is.part("run " + run);
            dice = new Random(run);
            x = new TuneHouse();
            m = new Model();
            // In each fourth run the TUNES are as long as they can be.
            mostNotes = run % 4 == 3 ? 24 : 2 + run % 3;
            boolean isNarrow = (run + run / 4) % 2 == 0;
            pitches = isNarrow ? 8 : 61;
            lowPitch = isNarrow ? 20 : 0;
            int before = is.asked();
            if (mostNotes == 24) {
                writeLong();
            }
            while (is.asked() - before <= CALLS - MOST_AT_ONCE) {
                if (dice.nextInt(100) < (is.asked() - before < 120 ? 85 : 20)) {
                    change();
                } else {
                    ask();
                }
            }
        }
        is.end();
    }

    /** Some SHEETS full of NOTES, or nearly so, each much like the first one in another key. */
    private static void writeLong() {
        int sheets = 5 + dice.nextInt(4);
        int[] first = new int[24];
        for (int i = 0; i < first.length; i++) {
            first[i] = anyPitch();
        }
        for (int s = 0; s < sheets; s++) {
            int year = 1800 + dice.nextInt(3);
            int up = s == 0 ? 0 : dice.nextInt(16) - 8;
            is.due("sheet", x.sheet(s % 6, year, s), m.sheet(s % 6, year, s));
            int notes = 20 + dice.nextInt(5);
            for (int i = 0; i < notes; i++) {
                int p = dice.nextInt(5) == 0 ? anyPitch() : first[i] == -1 ? -1 : first[i] + up;
                int b = dice.nextInt(5) == 0 ? anyBeats() : 1 + i % 3;
                is.due("note", x.note(s, p, b), m.note(s, p, b));
            }
        }
    }

    /** Mostly 0 .. top, now and then beyond. */
    private static int upTo(int top) {
        int[] far = {-1, top + 1, Integer.MAX_VALUE, Integer.MIN_VALUE, -2};
        return dice.nextInt(40) == 0 ? far[dice.nextInt(far.length)] : dice.nextInt(top + 1);
    }

    private static int anySheet() {
        return upTo(Math.max(0, m.count(1) - 1));
    }

    private static int anyDay() {
        return dice.nextInt(3) == 0 ? m.count(0) : upTo(m.count(0));
    }

    private static int anyPitch() {
        return dice.nextInt(6) == 0 ? -1 : dice.nextInt(30) == 0 ? upTo(60) : lowPitch + dice.nextInt(pitches);
    }

    private static int anyBeats() {
        return dice.nextInt(30) == 0 ? upTo(16) : 1 + dice.nextInt(4);
    }

    private static int anyBar() {
        return dice.nextInt(10) == 0 ? upTo(10000) : dice.nextInt(far());
    }

    /** Some DISTANCES are below, and some above: long TUNES are further apart. */
    private static int far() {
        return mostNotes == 24 ? 120 : 30;
    }

    private static void change() {
        int s = anySheet();
        int p = anyPitch();
        int b = anyBeats();
        switch (dice.nextInt(12)) {
            case 0, 1 -> {
                int hand = upTo(5);
                int year = dice.nextInt(10) == 0 ? upTo(3000) : 1800 + dice.nextInt(5);
                int words = upTo(9);
                is.due("sheet(" + hand + ", " + year + ", " + words + ")", x.sheet(hand, year, words),
                    m.sheet(hand, year, words));
            }
            case 2, 3, 4, 5 -> {
                // The model looks at every ALIGNMENT of a few NOTES, so most TUNES stay short.
                if (hasRoom(s)) {
                    is.due("note(" + s + ", " + p + ", " + b + ")", x.note(s, p, b), m.note(s, p, b));
                }
            }
            case 6, 7 -> {
                int i = upTo(mostNotes - 1);
                is.due("correct(" + s + ", " + i + ", " + p + ", " + b + ")", x.correct(s, i, p, b),
                    m.correct(s, i, p, b));
            }
            case 8 -> {
                if (dice.nextInt(4) == 0) {
                    is.due("forge(" + s + ")", x.forge(s), m.forge(s));
                }
            }
            case 9 -> {
                int o = anySheet();
                is.due("doubles(" + s + ", " + o + ")", x.doubles(s, o), m.doubles(s, o));
            }
            case 10 -> {
                int n = dice.nextInt(20) == 0 ? upTo(1000) : dice.nextInt(4);
                is.due("days(" + n + ")", x.days(n), m.days(n));
            }
            default -> {
                int which = upTo(4);
                int[] tops = {4, 12, 4, 8, far() + 10};
                int coins = which < 0 || which > 4 ? 3 : upTo(dice.nextInt(20) == 0 ? 200 : tops[which]);
                is.due("price(" + which + ", " + coins + ")", x.price(which, coins), m.price(which, coins));
            }
        }
    }

    private static boolean hasRoom(int s) {
        if (s < 0 || s >= m.count(1)) {
            return true;
        }
        try {
            m.at(s, mostNotes - 1, 0, 0);
            return false;
        } catch (NoSuchElementException e) {
            return true;
        }
    }

    private static void ask() {
        int s = anySheet();
        int o = anySheet();
        int q = anyDay();
        int bar = anyBar();
        int[] args = {s, o, q, bar};
        String of = " of " + java.util.Arrays.toString(args);
        switch (dice.nextInt(14)) {
            case 0 -> askAt(s, upTo(mostNotes - 1), q, upTo(1));
            case 1 -> is.due("distance" + of, x.distance(s, o, q), m.distance(s, o, q));
            case 2 -> is.due("key" + of, x.key(s, o, q), m.key(s, o, q));
            case 3, 4 -> {
                int first = mostNotes == 24 ? dice.nextInt(44) : -1;
                for (int i = first; i < first + MOST_AT_ONCE; i++) {
                    int what = upTo(2);
                    is.due("column " + i + ", " + what + of, x.column(s, o, q, i, what), m.column(s, o, q, i, what));
                }
            }
            case 5 -> is.due("family" + of, x.family(s, bar, q), m.family(s, bar, q));
            case 6 -> is.due("kin" + of, x.kin(s, bar, q), m.kin(s, bar, q));
            case 7 -> is.due("sung" + of, x.sung(s, bar, q), m.sung(s, bar, q));
            case 8 -> is.due("source" + of, x.source(s, q), m.source(s, q));
            case 9 -> is.due("changes" + of, x.changes(s, q), m.changes(s, q));
            case 10 -> is.due("all" + of, x.all(q), m.all(q));
            case 11 -> is.due("doubt" + of, x.doubt(s, bar, q), m.doubt(s, bar, q));
            case 12 -> {
                int hand = upTo(5);
                int other = upTo(5);
                int what = upTo(1);
                is.due("habit " + hand + ", " + other + ", " + what + of, x.habit(hand, other, q, what),
                    m.habit(hand, other, q, what));
            }
            default -> {
                int words = upTo(9);
                int what = upTo(5);
                boolean greatest = dice.nextBoolean();
                is.due("span " + words + of, x.span(words, q, greatest), m.span(words, q, greatest));
                is.due("count " + what, x.count(what), m.count(what));
            }
        }
    }

    private static void askAt(int s, int i, int q, int what) {
        int want;
        try {
            want = m.at(s, i, q, what);
        } catch (NoSuchElementException e) {
            is.dueNoNote(x, s, i, q, what);
            return;
        }
        is.due("at(" + s + ", " + i + ", " + q + ", " + what + ")", x.at(s, i, q, what), want);
    }
}
