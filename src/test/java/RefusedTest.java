import java.util.NoSuchElementException;

/**
 * 'What is refused answers as told and changes nothing': of two houses told alike, one is asked for
 * something refused besides; then both answer everything alike.
 */
public final class RefusedTest extends Houses {
    private static final Checks is = new Checks();

    /** A call that is due to be refused, on a fresh house each time. */
    private interface Call {
        long on(TuneHouse x);
    }

    /** What makes a house. */
    private interface Maker {
        TuneHouse make();
    }

    public static void main(String[] args) {
        changesRefused();
        questionsRefused();
        refusedWhereFull();
        refusedInANewHouse();
        questionsChangeNothing();
        is.end();
    }

    /** Three SHEETS on DAY 2, of which one is corrected and one FORGED. */
    private static TuneHouse lived() {
        TuneHouse x = house(tune(20, 1, 30, 2), tune(25, 1, 36, 2), tune(20, 1, NONE, 0));
        x.doubles(0, 1);
        x.days(1);
        x.correct(1, 1, 35, 3);
        x.days(1);
        x.forge(2);
        return x;
    }

    /** Everything is full but the NOTES of the lower SHEETS. */
    private static TuneHouse full() {
        TuneHouse x = fullHouse();
        for (int n = 0; n < 24; n++) {
            x.note(19, 30, 1 + n % 16);
        }
        for (int i = 0; i < 60; i++) {
            x.doubles(2 * (i % 10), 2 * (i / 10) + 1);
        }
        x.days(1);
        for (int i = 0; i < 200; i++) {
            x.correct(19, i % 24, 31, 1 + i % 16);
        }
        x.days(999);
        x.forge(1);
        return x;
    }

    private static void changesRefused() {
        is.part("'changes nothing', changes");
        Maker m = RefusedTest::lived;
        dueNothing("sheet: HAND", m, x -> x.sheet(6, 1900, 0), NONE);
        dueNothing("sheet: YEAR", m, x -> x.sheet(0, 3001, 0), NONE);
        dueNothing("sheet: WORDS", m, x -> x.sheet(0, 1900, 10), NONE);
        dueNothing("note: SHEET", m, x -> x.note(3, 30, 1), NONE);
        dueNothing("note: PITCH", m, x -> x.note(0, 61, 1), NONE);
        dueNothing("note: PITCH below", m, x -> x.note(0, -2, 1), NONE);
        dueNothing("note: BEATS", m, x -> x.note(0, 30, 17), NONE);
        dueNothing("note: no BEATS", m, x -> x.note(0, 30, 0), NONE);
        dueNothing("correct: SHEET", m, x -> x.correct(3, 0, 31, 1) ? 1 : 0, 0);
        dueNothing("correct: NOTE", m, x -> x.correct(0, 2, 31, 1) ? 1 : 0, 0);
        dueNothing("correct: NOTE below", m, x -> x.correct(0, -1, 31, 1) ? 1 : 0, 0);
        dueNothing("correct: PITCH", m, x -> x.correct(0, 1, 61, 1) ? 1 : 0, 0);
        dueNothing("correct: BEATS", m, x -> x.correct(0, 1, 31, 17) ? 1 : 0, 0);
        dueNothing("correct: no BEATS", m, x -> x.correct(0, 1, 31, 0) ? 1 : 0, 0);
        dueNothing("forge: SHEET", m, x -> x.forge(3) ? 1 : 0, 0);
        dueNothing("forge: it is", m, x -> x.forge(2) ? 1 : 0, 0);
        dueNothing("doubles: SHEET", m, x -> x.doubles(0, 3) ? 1 : 0, 0);
        dueNothing("doubles: one SHEET", m, x -> x.doubles(1, 1) ? 1 : 0, 0);
        dueNothing("doubles: told", m, x -> x.doubles(0, 1) ? 1 : 0, 0);
        dueNothing("doubles: told the other way", m, x -> x.doubles(1, 0) ? 1 : 0, 0);
        dueNothing("days: n below", m, x -> x.days(-1), NONE);
        dueNothing("days: n above", m, x -> x.days(1001), NONE);
        dueNothing("days: NOW", m, x -> x.days(999), NONE);
        dueNothing("days: around", m, x -> x.days(HIGH), NONE);
        int[] tops = {20, 200, 20, 200, 10000};
        for (int which = 0; which < tops.length; which++) {
            int w = which;
            dueNothing("price " + w + " below", m, x -> x.price(w, -1) ? 1 : 0, 0);
            dueNothing("price " + w + " above", m, x -> x.price(w, tops[w] + 1) ? 1 : 0, 0);
        }
        dueNothing("price 5", m, x -> x.price(5, 1) ? 1 : 0, 0);
        dueNothing("price -1", m, x -> x.price(-1, 1) ? 1 : 0, 0);
    }

    private static void questionsRefused() {
        is.part("'changes nothing', questions");
        Maker m = RefusedTest::lived;
        for (int q : new int[] {-1, 3, LOW, HIGH}) {
            dueNothing("at on " + q, m, x -> pitchOrThrown(x, 0, 0, q), LOW);
            dueNothing("distance on " + q, m, x -> x.distance(0, 1, q), NONE);
            dueNothing("key on " + q, m, x -> x.key(0, 1, q), NO_KEY);
            dueNothing("column on " + q, m, x -> x.column(0, 1, q, 0, 0), NONE);
            dueNothing("family on " + q, m, x -> x.family(0, 9, q), NONE);
            dueNothing("kin on " + q, m, x -> x.kin(0, 9, q), NONE);
            dueNothing("sung on " + q, m, x -> x.sung(0, 9, q), NONE);
            dueNothing("source on " + q, m, x -> x.source(1, q), NONE);
            dueNothing("changes on " + q, m, x -> x.changes(1, q), NONE);
            dueNothing("all on " + q, m, x -> x.all(q), NONE);
            dueNothing("doubt on " + q, m, x -> x.doubt(1, 9, q), NONE);
            dueNothing("habit on " + q, m, x -> x.habit(0, 1, q, 0), NO_HABIT);
            dueNothing("span on " + q, m, x -> x.span(1, q, true), NONE);
        }
        dueNothing("at", m, x -> pitchOrThrown(x, 0, 2, 0), LOW);
        dueNothing("column", m, x -> x.column(0, 1, 0, 9, 0), NONE);
        dueNothing("family", m, x -> x.family(2, 9, 2), NONE);
        dueNothing("kin", m, x -> x.kin(0, 10001, 0), NONE);
        dueNothing("doubt", m, x -> x.doubt(1, 10001, 0), NONE);
        dueNothing("habit", m, x -> x.habit(1, 1, 0, 0), NO_HABIT);
        dueNothing("count", m, x -> x.count(6), NONE);
    }

    private static void refusedWhereFull() {
        is.part("'changes nothing', where all is full");
        Maker m = RefusedTest::full;
        dueNothing("sheet", m, x -> x.sheet(0, 0, 0), NONE);
        dueNothing("note", m, x -> x.note(19, 30, 1), NONE);
        dueNothing("note, a GAP", m, x -> x.note(19, NONE, 1), NONE);
        dueNothing("correct", m, x -> x.correct(19, 0, 20, 9) ? 1 : 0, 0);
        dueNothing("doubles", m, x -> x.doubles(18, 19) ? 1 : 0, 0);
        dueNothing("forge", m, x -> x.forge(1) ? 1 : 0, 0);
        dueNothing("days", m, x -> x.days(1), NONE);
        dueNothing("days around", m, x -> x.days(HIGH), NONE);
    }

    private static void refusedInANewHouse() {
        is.part("'changes nothing', a new house");
        Maker m = TuneHouse::new;
        dueNothing("sheet", m, x -> x.sheet(-1, 0, 0), NONE);
        dueNothing("note", m, x -> x.note(0, 30, 1), NONE);
        dueNothing("correct", m, x -> x.correct(0, 0, 20, 9) ? 1 : 0, 0);
        dueNothing("forge", m, x -> x.forge(0) ? 1 : 0, 0);
        dueNothing("doubles", m, x -> x.doubles(0, 1) ? 1 : 0, 0);
        dueNothing("days", m, x -> x.days(1001), NONE);
        dueNothing("price", m, x -> x.price(4, 10001) ? 1 : 0, 0);
    }

    private static void questionsChangeNothing() {
        is.part("questions asked twice");
        for (Maker m : new Maker[] {RefusedTest::lived, RefusedTest::full, TuneHouse::new}) {
            TuneHouse x = m.make();
            String first = few(x);
            is.due("the second time as the first", first.equals(few(x)), true);
        }
    }

    private static void dueNothing(String name, Maker m, Call refused, long want) {
        TuneHouse x = m.make();
        is.due(name, refused.on(x), want);
        is.due(name + ", then all as without it", answers(x).equals(answers(m.make())), true);
        // Once more where the answers are known to the house already.
        TuneHouse y = m.make();
        String before = few(y);
        is.due(name + ", late", refused.on(y), want);
        is.due(name + ", then as before", few(y).equals(before), true);
    }

    private static long pitchOrThrown(TuneHouse x, int sheet, int i, int q) {
        try {
            return x.at(sheet, i, q, 0);
        } catch (NoSuchElementException e) {
            return LOW;
        }
    }

    /** Up to 60 answers, mostly of NOW. */
    private static String few(TuneHouse x) {
        StringBuilder told = new StringBuilder();
        int now = x.count(0);
        int last = x.count(1) - 1;
        for (int what = 0; what <= 5; what++) {
            told.append(x.count(what)).append(' ');
        }
        for (int i = 0; i < 3; i++) {
            told.append(pitchOrThrown(x, last, i, now)).append(' ');
            told.append(x.column(0, last, now, i, 2)).append(' ');
            told.append(x.changes(i, now)).append(' ').append(x.family(i, 9, now)).append(' ');
            told.append(x.doubt(i, 9, now)).append(' ').append(x.source(i, 0)).append(' ');
        }
        told.append(x.distance(0, last, now)).append(' ').append(x.key(0, last, now)).append(' ');
        told.append(x.all(now)).append(' ').append(x.all(0)).append(' ');
        told.append(x.habit(0, 1, now, 0)).append(' ').append(x.habit(0, 1, 0, 1)).append(' ');
        told.append(x.span(1, now, true)).append(' ').append(x.span(1, 0, false));
        return told.toString();
    }

    /** Some 190 answers, of the first three SHEETS and the last, on the first DAYS and NOW. */
    private static String answers(TuneHouse x) {
        StringBuilder told = new StringBuilder(few(x)).append(';');
        int[] days = {0, 1, x.count(0)};
        int[] sheets = {0, 1, 2, x.count(1) - 1};
        for (int q : days) {
            for (int s : sheets) {
                told.append(pitchOrThrown(x, s, 0, q)).append(' ').append(pitchOrThrown(x, s, 1, q)).append(' ');
                told.append(x.kin(s, 9, q)).append(' ').append(x.sung(s, 9, q)).append(' ');
                told.append(x.changes(s, q)).append(' ').append(x.doubt(s, 9, q)).append(' ');
                told.append(x.distance(0, s, q)).append(' ').append(x.key(s, 1, q)).append(' ');
                told.append(x.column(1, s, q, 1, 2)).append(' ');
            }
            told.append(x.all(q)).append(' ').append(x.habit(1, 0, q, 0)).append(' ');
            told.append(x.span(0, q, false)).append(';');
        }
        // What can be told next is part of what stands.
        told.append(x.sheet(5, 2000, 5)).append(' ').append(x.note(0, 30, 1)).append(' ');
        told.append(x.correct(0, 0, 29, 2)).append(' ').append(x.doubles(0, 19)).append(' ');
        told.append(x.forge(0)).append(' ').append(x.days(1)).append(' ').append(x.all(0));
        return told.toString();
    }
}
