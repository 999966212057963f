/** Each sentence of the promises that names a boundary case, by a test of its own; the part quotes it. */
public final class PromiseEdgeTest extends Houses {
    /** No SHEETS of a house of two; the last ones would wrap around in a row of 20 a SHEET. */
    private static final int[] NO_SHEETS = {-1, 2, 20, -2, LOW, HIGH, LOW + 1, HIGH - 1, 214748365, -214748365};
    private static final Checks is = new Checks();

    public static void main(String[] args) {
        newObject();
        sheetsFull();
        sheetOutOfBounds();
        sheetEmpty();
        noteGap();
        noteOfNoSheet();
        noteOutOfBounds();
        notesFull();
        correctNoSuchOne();
        correctOutOfBounds();
        correctionsFull();
        correctionsOfOneDay();
        forgeNoSuchOne();
        forgeTwice();
        forgeAll();
        doublesNoSuchOnes();
        doublesOfOneHand();
        doublesTold();
        doublesFull();
        daysOfNone();
        daysOutOfBounds();
        daysAboveTheLast();
        priceNoSuchOne();
        priceOutOfBounds();
        atNoneSuch();
        atNoDay();
        atNoSuchQuestion();
        atGap();
        distanceRefused();
        keyRefused();
        columnWithout();
        columnOthers();
        columnFirstAndLast();
        columnMost();
        familyBar();
        familyRefused();
        kinRefused();
        sungRefused();
        sourceRefused();
        changesRefused();
        allRefused();
        allOfNone();
        doubtMargin();
        doubtRefused();
        habitRefused();
        spanNoSuchWords();
        spanNoSheet();
        countOthers();
        countAtTheMost();
        is.end();
    }

    private static void newObject() {
        is.part("promise 1: 'No SHEETS, NOW 0'");
        TuneHouse x = new TuneHouse();
        for (int what = 0; what <= 5; what++) {
            is.due("count(" + what + ")", x.count(what), 0);
        }
        is.due("all", x.all(0), 0);
        is.due("no NOTE", x.note(0, 30, 1), NONE);
        is.due("no correction", x.correct(0, 0, 30, 1), false);
        is.due("none to forge", x.forge(0), false);
        is.due("no DOUBLES", x.doubles(0, 1), false);
        is.dueNoNote(x, 0, 0, 0, 0);
        is.due("distance", x.distance(0, 0, 0), NONE);
        is.due("key", x.key(0, 0, 0), NO_KEY);
        is.due("column", x.column(0, 0, 0, 0, 0), NONE);
        is.due("family", x.family(0, 0, 0), NONE);
        is.due("kin", x.kin(0, 0, 0), NONE);
        is.due("sung", x.sung(0, 0, 0), NONE);
        is.due("source", x.source(0, 0), NONE);
        is.due("changes", x.changes(0, 0), NONE);
        is.due("doubt", x.doubt(0, 0, 0), NONE);
        is.due("habit", x.habit(0, 1, 0, 0), 0);
        is.due("span", x.span(0, 0, true), NONE);
        TuneHouse y = new TuneHouse();
        y.sheet(0, 0, 0);
        y.days(9);
        y.price(4, 1);
        is.due("one beside another: SHEETS", x.count(1), 0);
        is.due("one beside another: NOW", x.count(0), 0);
        is.due("a third: SHEETS", new TuneHouse().sheet(0, 0, 0), 0);
        is.due("the first one's", x.sheet(0, 0, 0), 0);
        is.due("the first one's ANEW", x.all(0), 30);
    }

    private static void sheetsFull() {
        is.part("promise 2: 'NONE: there are 20'");
        TuneHouse x = new TuneHouse();
        for (int i = 0; i < 20; i++) {
            is.due("SHEET " + i, x.sheet(i % 6, i, i % 10), i);
        }
        is.due("the 21st", x.sheet(0, 0, 0), NONE);
        is.due("the 21st, out of bounds too", x.sheet(6, 0, 0), NONE);
        x.forge(0);
        is.due("a FORGED one leaves no place", x.sheet(0, 0, 0), NONE);
        is.due("SHEETS", x.count(1), 20);
        is.due("the last one's YEAR", x.span(9, 0, true), 19);
    }

    private static void sheetOutOfBounds() {
        is.part("promise 2: 'NONE: .. out of bounds'");
        TuneHouse x = new TuneHouse();
        for (int far : new int[] {-1, LOW, HIGH, 3001}) {
            is.due("HAND " + far, x.sheet(far, 0, 0), NONE);
            is.due("YEAR " + far, x.sheet(0, far, 0), NONE);
            is.due("WORDS " + far, x.sheet(0, 0, far), NONE);
        }
        is.due("HAND 6", x.sheet(6, 3000, 9), NONE);
        is.due("YEAR 3001", x.sheet(5, 3001, 9), NONE);
        is.due("WORDS 10", x.sheet(5, 3000, 10), NONE);
        is.due("all of them at once", x.sheet(6, 3001, 10), NONE);
        is.due("the first number is not lost", x.sheet(5, 3000, 9), 0);
        is.due("nor the next", x.sheet(0, 0, 0), 1);
    }

    private static void sheetEmpty() {
        is.part("promise 2: 'its TUNE empty'");
        TuneHouse x = house(tune(), tune(30, 1));
        is.dueNoNote(x, 0, 0, 0, 0);
        is.due("no COLUMN", x.column(0, 0, 0, 0, 0), NONE);
        is.due("no correction", x.correct(0, 0, 30, 1), false);
        is.due("its first NOTE", x.note(0, 30, 1), 1);
        is.due("DISTANCE then", x.distance(0, 1, 0), 0);
    }

    private static void noteGap() {
        is.part("promise 3: '(PITCH NONE: a GAP, beats not asked)'");
        TuneHouse x = house(tune());
        int[] beats = {0, 1, 16, 17, -1, LOW, HIGH};
        for (int i = 0; i < beats.length; i++) {
            is.due("a GAP with " + beats[i], x.note(0, NONE, beats[i]), i + 1);
            is.due("its PITCH", x.at(0, i, 0, 0), NONE);
            is.due("its BEATS", x.at(0, i, 0, 1), 0);
        }
    }

    private static void noteOfNoSheet() {
        is.part("promise 3: 'NONE: no such one'");
        TuneHouse x = house(tune(), tune());
        for (int far : NO_SHEETS) {
            is.due("a NOTE of " + far, x.note(far, 30, 1), NONE);
            is.due("a GAP of " + far, x.note(far, NONE, 0), NONE);
        }
        is.due("NOTES", x.count(3), 0);
        is.due("the last SHEET's", x.note(1, 30, 1), 1);
        is.due("the first SHEET's", x.note(0, 30, 1), 1);
    }

    private static void noteOutOfBounds() {
        is.part("promise 3: 'NONE: .. out of bounds'");
        TuneHouse x = house(tune());
        for (int pitch : new int[] {-2, 61, LOW, HIGH}) {
            is.due("PITCH " + pitch, x.note(0, pitch, 1), NONE);
        }
        for (int beats : new int[] {0, 17, -1, LOW, HIGH}) {
            is.due("BEATS " + beats, x.note(0, 0, beats), NONE);
            is.due("BEATS " + beats + " of the highest", x.note(0, 60, beats), NONE);
        }
        is.due("NOTES", x.count(3), 0);
        is.due("the first one is not lost", x.note(0, 60, 16), 1);
    }

    private static void notesFull() {
        is.part("promise 3: 'NONE: .. there are 24'");
        TuneHouse x = house(tune(), tune());
        for (int n = 1; n <= 24; n++) {
            is.due("NOTE " + n, x.note(0, n % 2 == 0 ? NONE : 30, 1), n);
        }
        is.due("the 25th", x.note(0, 30, 1), NONE);
        is.due("the 25th, a GAP", x.note(0, NONE, 1), NONE);
        is.due("NOTES", x.count(3), 24);
        is.due("a correction of the last", x.correct(0, 23, 30, 1), true);
        is.due("makes no place", x.note(0, 30, 1), NONE);
        is.due("another SHEET has its own", x.note(1, 30, 1), 1);
        is.due("NOTES of both", x.count(3), 25);
    }

    private static void correctNoSuchOne() {
        is.part("promise 4: 'False: no such one'");
        TuneHouse x = house(tune(30, 1, 31, 1), tune());
        for (int far : NO_SHEETS) {
            is.due("of SHEET " + far, x.correct(far, 0, 30, 1), false);
        }
        for (int far : new int[] {-1, 2, 23, 24, LOW, HIGH}) {
            is.due("of NOTE " + far, x.correct(0, far, 30, 1), false);
            is.due("of NOTE " + far + " to a GAP", x.correct(0, far, NONE, 1), false);
        }
        is.due("of no NOTE", x.correct(1, 0, 30, 1), false);
        is.due("corrections", x.count(4), 0);
        is.due("of the last NOTE", x.correct(0, 1, 32, 1), true);
        is.due("of the first NOTE", x.correct(0, 0, 33, 1), true);
        is.due("the last", x.at(0, 1, 0, 0), 32);
        is.due("the first", x.at(0, 0, 0, 0), 33);
        x.note(1, 30, 1);
        is.due("of a NOTE told by now", x.correct(1, 0, 30, 1), true);
    }

    private static void correctOutOfBounds() {
        is.part("promise 4: 'False: .. out of bounds'");
        TuneHouse x = house(tune(30, 3));
        for (int pitch : new int[] {-2, 61, LOW, HIGH}) {
            is.due("to PITCH " + pitch, x.correct(0, 0, pitch, 1), false);
        }
        for (int beats : new int[] {0, 17, -1, LOW, HIGH}) {
            is.due("to BEATS " + beats, x.correct(0, 0, 20, beats), false);
        }
        is.due("PITCH as before", x.at(0, 0, 0, 0), 30);
        is.due("BEATS as before", x.at(0, 0, 0, 1), 3);
        is.due("corrections", x.count(4), 0);
        is.due("to a GAP, whatever BEATS", x.correct(0, 0, NONE, LOW), true);
        is.due("corrections then", x.count(4), 1);
    }

    private static void correctionsFull() {
        is.part("promise 4: 'False: .. 200 were'");
        TuneHouse x = house(tune(30, 1, 30, 1), tune(30, 1));
        for (int i = 0; i < 200; i++) {
            // Refused ones between are none of the 200.
            is.due("refused " + i, x.correct(1, 1, 30, 1), false);
            is.due("correction " + i, x.correct(i % 2, 0, i % 61, 2), true);
        }
        is.due("the 201st", x.correct(0, 0, 30, 1), false);
        x.days(1);
        is.due("of another NOTE, another DAY", x.correct(0, 1, 30, 1), false);
        is.due("corrections", x.count(4), 200);
        is.due("the 199th stands", x.at(0, 0, 1, 0), 198 % 61);
        is.due("the 200th stands", x.at(1, 0, 1, 0), 199 % 61);
        is.due("BEATS of the 200th", x.at(1, 0, 0, 1), 2);
        is.due("the other NOTE", x.at(0, 1, 1, 1), 1);
    }

    private static void correctionsOfOneDay() {
        is.part("promise 4: 'is corrected, NOW', 200 times on 200 DAYS");
        TuneHouse x = house(tune(30, 1));
        for (int i = 0; i < 200; i++) {
            x.days(1);
            x.correct(0, 0, i % 61, 1 + i % 16);
        }
        for (int q = 1; q <= 200; q += 33) {
            is.due("PITCH on " + q, x.at(0, 0, q, 0), (q - 1) % 61);
            is.due("BEATS on " + q, x.at(0, 0, q, 1), 1 + (q - 1) % 16);
        }
        is.due("PITCH on 0", x.at(0, 0, 0, 0), 30);
        is.due("PITCH on 200", x.at(0, 0, 200, 0), 199 % 61);
    }

    private static void forgeNoSuchOne() {
        is.part("promise 5: 'False: no such one'");
        TuneHouse x = house(tune(), tune());
        for (int far : NO_SHEETS) {
            is.due("forge " + far, x.forge(far), false);
        }
        is.due("FORGED", x.count(2), 0);
        is.due("the last", x.forge(1), true);
        is.due("the first", x.forge(0), true);
    }

    private static void forgeTwice() {
        is.part("promise 5: 'False: .. it is'");
        TuneHouse x = house(tune(), tune());
        x.days(2);
        is.due("forge", x.forge(0), true);
        is.due("again on its DAY", x.forge(0), false);
        x.days(1);
        is.due("again on the next", x.forge(0), false);
        is.due("FORGED", x.count(2), 1);
        is.due("from its DAY on", x.kin(0, 0, 2), NONE);
        is.due("not before", x.kin(0, 0, 1), 2);
    }

    private static void forgeAll() {
        is.part("promise 5, all 20");
        TuneHouse x = fullHouse();
        x.doubles(0, 1);
        x.days(1);
        for (int i = 0; i < 20; i++) {
            is.due("forge " + i, x.forge(i), true);
        }
        is.due("FORGED", x.count(2), 20);
        is.due("SHEETS", x.count(1), 20);
        is.due("all", x.all(1), 0);
        is.due("all the DAY before", x.all(0), 30);
        is.due("kin the DAY before", x.kin(19, 0, 0), 20);
        is.due("SPAN", x.span(9, 1, true), NONE);
        is.due("HABIT", x.habit(0, 1, 1, 1), 0);
    }

    private static void doublesNoSuchOnes() {
        is.part("promise 6: 'False: no such ones'");
        TuneHouse x = house(tune(), tune());
        for (int far : NO_SHEETS) {
            is.due("0 and " + far, x.doubles(0, far), false);
            is.due(far + " and 0", x.doubles(far, 0), false);
            is.due(far + " and itself", x.doubles(far, far), false);
        }
        is.due("DOUBLES", x.count(5), 0);
        is.due("the last and the first", x.doubles(1, 0), true);
    }

    private static void doublesOfOneHand() {
        is.part("promise 6: 'False: .. one HAND'");
        TuneHouse x = new TuneHouse();
        for (int hand : new int[] {5, 0, 5, 0}) {
            x.sheet(hand, 1900, 0);
        }
        is.due("two of the highest HAND", x.doubles(0, 2), false);
        is.due("two of the lowest HAND", x.doubles(3, 1), false);
        is.due("one SHEET", x.doubles(0, 0), false);
        is.due("DOUBLES", x.count(5), 0);
        is.due("two HANDS", x.doubles(0, 3), true);
    }

    private static void doublesTold() {
        is.part("promise 6: 'False: .. told already (either way round)'");
        TuneHouse x = ofOneYear(1, 1, 1);
        is.due("0, 1", x.doubles(0, 1), true);
        is.due("0, 1 again", x.doubles(0, 1), false);
        is.due("1, 0", x.doubles(1, 0), false);
        is.due("2, 0", x.doubles(2, 0), true);
        is.due("0, 2", x.doubles(0, 2), false);
        is.due("2, 0 again", x.doubles(2, 0), false);
        is.due("1, 2", x.doubles(1, 2), true);
        x.days(1);
        is.due("on another DAY", x.doubles(2, 1), false);
        is.due("DOUBLES", x.count(5), 3);
        is.due("counted once", x.habit(0, 1, 1, 1), 1);
    }

    private static void doublesFull() {
        is.part("promise 6: 'False: .. 60 were'");
        TuneHouse x = fullHouse();
        for (int i = 0; i < 20; i++) {
            x.note(i, 30, 1);
        }
        for (int i = 0; i < 60; i++) {
            is.due("one HAND", x.doubles(0, 2), false);
            is.due("double " + i, x.doubles(2 * (i / 10), 2 * (i % 10) + 1), true);
            is.due("told already", x.doubles(1, 0), false);
        }
        is.due("the 61st", x.doubles(18, 19), false);
        x.forge(0);
        is.due("a FORGED one leaves no place", x.doubles(18, 19), false);
        is.due("DOUBLES", x.count(5), 60);
        is.due("all but the ten of the FORGED one", x.habit(0, 1, 0, 1), 50);
    }

    private static void daysOfNone() {
        is.part("promise 7: 'n DAYS go by (0 ..'");
        TuneHouse x = new TuneHouse();
        is.due("none at first", x.days(0), 0);
        is.due("one", x.days(1), 1);
        is.due("none", x.days(0), 1);
        is.due("NOW", x.count(0), 1);
    }

    private static void daysOutOfBounds() {
        is.part("promise 7: 'NONE: n'");
        TuneHouse x = new TuneHouse();
        x.days(5);
        for (int n : new int[] {-1, -5, -6, 1001, LOW, HIGH, LOW + 5, HIGH - 4}) {
            is.due("days(" + n + ")", x.days(n), NONE);
        }
        is.due("NOW", x.count(0), 5);
        is.due("days(1001) at first", new TuneHouse().days(1001), NONE);
        is.due("days(1000) at first", new TuneHouse().days(1000), 1000);
    }

    private static void daysAboveTheLast() {
        is.part("promise 7: 'or NOW would be above 1,000'");
        TuneHouse x = new TuneHouse();
        x.days(1);
        is.due("to 1001", x.days(1000), NONE);
        is.due("to 1000", x.days(999), 1000);
        is.due("one more", x.days(1), NONE);
        is.due("a thousand more", x.days(1000), NONE);
        is.due("round to a day below", x.days(HIGH), NONE);
        is.due("round to a day below, by less", x.days(HIGH - 999), NONE);
        is.due("none more", x.days(0), 1000);
        is.due("NOW", x.count(0), 1000);
    }

    private static void priceNoSuchOne() {
        is.part("promise 8: 'False: out of bounds', which");
        TuneHouse x = ofOneYear(1, 3);
        for (int which : new int[] {-1, 5, 6, LOW, HIGH}) {
            for (int coins : new int[] {0, 1, -1, HIGH}) {
                is.due(which + " of " + coins, x.price(which, coins), false);
            }
        }
        is.due("DISTANCE", x.distance(0, 1, 0), 2);
        is.due("all", x.all(0), 32);
    }

    private static void priceOutOfBounds() {
        is.part("promise 8: 'False: out of bounds', coins");
        int[] tops = {20, 200, 20, 200, 10000};
        TuneHouse x = ofOneYear(1, 3);
        for (int which = 0; which < 5; which++) {
            is.due(which + " of the top", x.price(which, tops[which]), true);
            is.due(which + " above", x.price(which, tops[which] + 1), false);
            is.due(which + " of 0", x.price(which, 0), true);
            is.due(which + " below", x.price(which, -1), false);
            is.due(which + " of the lowest", x.price(which, LOW), false);
            is.due(which + " of the highest", x.price(which, HIGH), false);
        }
        is.due("the last ones taken were 0", x.all(0), 0);
        x.price(4, 10000);
        is.due("ANEW of the top", x.all(0), 10000);
    }

    private static void atNoneSuch() {
        is.part("promise 9: 'NoSuchElementException: there is none such'");
        TuneHouse x = house(tune(10, 3, 20, 4), tune());
        for (int far : NO_SHEETS) {
            is.dueNoNote(x, far, 0, 0, 0);
        }
        for (int far : new int[] {-1, 2, 23, 24, LOW, HIGH}) {
            is.dueNoNote(x, 0, far, 0, 0);
            is.dueNoNote(x, 0, far, 0, 1);
        }
        is.dueNoNote(x, 1, 0, 0, 0);
        is.due("the first NOTE", x.at(0, 0, 0, 0), 10);
        is.due("the last NOTE", x.at(0, 1, 0, 1), 4);
        for (int n = 2; n < 24; n++) {
            x.note(0, 30, 16);
        }
        is.due("the last of 24", x.at(0, 23, 0, 1), 16);
        is.dueNoNote(x, 0, 24, 0, 0);
    }

    private static void atNoDay() {
        is.part("promise 9: 'NoSuchElementException: .. q'");
        TuneHouse x = house(tune(10, 3));
        is.dueNoNote(x, 0, 0, 1, 0);
        x.days(2);
        for (int q : new int[] {-1, 3, 1000, LOW, HIGH}) {
            is.dueNoNote(x, 0, 0, q, 0);
            is.dueNoNote(x, 0, 0, q, 1);
        }
        is.due("on NOW", x.at(0, 0, 2, 0), 10);
        is.due("on DAY 0", x.at(0, 0, 0, 1), 3);
    }

    private static void atNoSuchQuestion() {
        is.part("promise 9: 'NoSuchElementException: .. what'");
        TuneHouse x = house(tune(10, 3));
        for (int what : new int[] {-1, 2, 3, LOW, HIGH}) {
            is.dueNoNote(x, 0, 0, 0, what);
        }
        is.due("what 0", x.at(0, 0, 0, 0), 10);
        is.due("what 1", x.at(0, 0, 0, 1), 3);
    }

    private static void atGap() {
        is.part("promise 9: '0 PITCH (NONE of a GAP)'");
        TuneHouse x = house(tune(NONE, 5, 0, 1));
        is.due("a GAP throws nothing", x.at(0, 0, 0, 0), NONE);
        is.due("the lowest PITCH is no GAP", x.at(0, 1, 0, 0), 0);
        x.days(1);
        x.correct(0, 1, NONE, 9);
        is.due("a GAP from now on", x.at(0, 1, 1, 0), NONE);
        is.due("its BEATS", x.at(0, 1, 1, 1), 0);
        is.due("no GAP the DAY before", x.at(0, 1, 0, 1), 1);
    }

    private static void distanceRefused() {
        is.part("promise 10: 'NONE: no such SHEETS, q'");
        TuneHouse x = ofOneYear(1, 3);
        for (int far : NO_SHEETS) {
            is.due("0, " + far, x.distance(0, far, 0), NONE);
            is.due(far + ", 0", x.distance(far, 0, 0), NONE);
            is.due(far + ", itself", x.distance(far, far, 0), NONE);
        }
        for (int q : new int[] {-1, 1, LOW, HIGH}) {
            is.due("q " + q, x.distance(0, 1, q), NONE);
        }
        is.due("the last, the first", x.distance(1, 0, 0), 2);
        is.due("a SHEET and itself", x.distance(1, 1, 0), 0);
    }

    private static void keyRefused() {
        is.part("promise 11: '100: likewise'");
        TuneHouse x = house(tune(20, 1), tune(32, 1));
        for (int far : NO_SHEETS) {
            is.due("0, " + far, x.key(0, far, 0), 100);
            is.due(far + ", 0", x.key(far, 0, 0), 100);
            is.due(far + ", itself", x.key(far, far, 0), 100);
        }
        for (int q : new int[] {-1, 1, LOW, HIGH}) {
            is.due("q " + q, x.key(0, 1, q), 100);
        }
        is.due("the first, the last", x.key(0, 1, 0), 12);
        is.due("the last, the first", x.key(1, 0, 0), -12);
        is.due("a SHEET and itself", x.key(1, 1, 0), 0);
    }

    private static void columnWithout() {
        is.part("promise 12: 'NONE without'");
        TuneHouse x = ofOneYear(1, 3);
        for (int what = 0; what < 3; what++) {
            for (int far : NO_SHEETS) {
                is.due("0, " + far, x.column(0, far, 0, 0, what), NONE);
                is.due(far + ", 0", x.column(far, 0, 0, 0, what), NONE);
            }
            for (int q : new int[] {-1, 1, LOW, HIGH}) {
                is.due("q " + q, x.column(0, 1, q, 0, what), NONE);
            }
        }
        is.due("the last, the first", x.column(1, 0, 0, 0, 2), 2);
    }

    private static void columnOthers() {
        is.part("promise 12: 'or for others'");
        TuneHouse x = ofOneYear(1, 3);
        for (int what = 0; what < 3; what++) {
            for (int i : new int[] {-1, 1, 47, 48, 49, LOW, HIGH}) {
                is.due("COLUMN " + i, x.column(0, 1, 0, i, what), NONE);
            }
        }
        for (int what : new int[] {-1, 3, LOW, HIGH}) {
            is.due("what " + what, x.column(0, 1, 0, 0, what), NONE);
        }
        is.due("what 0", x.column(0, 1, 0, 0, 0), 0);
        is.due("what 1", x.column(0, 1, 0, 0, 1), 0);
        is.due("what 2", x.column(0, 1, 0, 0, 2), 2);
    }

    private static void columnFirstAndLast() {
        is.part("promise 12: 'COLUMN i (from the first on)', '(NONE: none)'");
        TuneHouse x = house(tune(20, 1, 30, 2), tune(20, 4, 30, 2, 41, 16));
        is.dueColumns(x, 0, 1, new int[][] {{0, 0, 3}, {1, 1, 0}, {NONE, 2, 5}});
        is.due("the last one the other way, t", x.column(1, 0, 0, 2, 0), 2);
        is.due("the last one the other way, u", x.column(1, 0, 0, 2, 1), NONE);
    }

    private static void columnMost() {
        is.part("promise 12, as many COLUMNS as can be");
        TuneHouse x = house(alike(24, 0, 1), alike(24, 60, 16));
        x.price(3, 1);
        for (int i = 0; i < 24; i++) {
            is.due("u's first, " + i, x.column(0, 1, 0, i, 1), i);
            is.due("t's last, " + i, x.column(0, 1, 0, 24 + i, 0), i);
        }
        is.due("no NOTE of t in the first", x.column(0, 1, 0, 0, 0), NONE);
        is.due("no NOTE of u in the last", x.column(0, 1, 0, 47, 1), NONE);
        is.due("price of the last", x.column(0, 1, 0, 47, 2), 1);
        is.due("past the last", x.column(0, 1, 0, 48, 2), NONE);
        is.due("their sum", x.distance(0, 1, 0), 48);
    }

    private static void familyBar() {
        is.part("promise 13: 'by a bar (0 .. 10,000): its lowest number'");
        TuneHouse x = ofOneYear(1, 1, 16);
        is.due("bar 0", x.family(1, 0, 0), 0);
        is.due("bar 0, another", x.family(2, 0, 0), 2);
        is.due("bar 10000", x.family(2, 10000, 0), 0);
        for (int bar : new int[] {-1, 10001, LOW, HIGH}) {
            is.due("FAMILY by " + bar, x.family(1, bar, 0), NONE);
            is.due("kin by " + bar, x.kin(1, bar, 0), NONE);
            is.due("sung by " + bar, x.sung(1, bar, 0), NONE);
        }
    }

    /** The second of two SHEETS alike is FORGED on DAY 1, and NOW is 1. */
    private static TuneHouse secondForged() {
        TuneHouse x = ofOneYear(1, 1);
        x.days(1);
        x.forge(1);
        return x;
    }

    private static void familyRefused() {
        is.part("promise 13: 'NONE: no such SHEET, bar, q; it is FORGED'");
        TuneHouse x = secondForged();
        for (int far : NO_SHEETS) {
            is.due("SHEET " + far, x.family(far, 0, 0), NONE);
        }
        for (int q : new int[] {-1, 2, LOW, HIGH}) {
            is.due("q " + q, x.family(0, 0, q), NONE);
        }
        is.due("FORGED", x.family(1, 0, 1), NONE);
        is.due("not yet FORGED", x.family(1, 0, 0), 0);
        is.due("the other", x.family(0, 0, 1), 0);
    }

    private static void kinRefused() {
        is.part("promise 14: 'NONE likewise'");
        TuneHouse x = secondForged();
        for (int far : NO_SHEETS) {
            is.due("SHEET " + far, x.kin(far, 0, 0), NONE);
        }
        for (int q : new int[] {-1, 2, LOW, HIGH}) {
            is.due("q " + q, x.kin(0, 0, q), NONE);
        }
        is.due("FORGED", x.kin(1, 0, 1), NONE);
        is.due("not yet FORGED", x.kin(1, 0, 0), 2);
        is.due("the other", x.kin(0, 0, 1), 1);
    }

    private static void sungRefused() {
        is.part("promise 15: 'NONE likewise'");
        TuneHouse x = secondForged();
        for (int far : NO_SHEETS) {
            is.due("SHEET " + far, x.sung(far, 0, 0), NONE);
        }
        for (int q : new int[] {-1, 2, LOW, HIGH}) {
            is.due("q " + q, x.sung(0, 0, q), NONE);
        }
        is.due("FORGED", x.sung(1, 0, 1), NONE);
        is.due("not yet FORGED", x.sung(1, 0, 0), 3);
        is.due("the other", x.sung(0, 0, 1), 1);
    }

    private static void sourceRefused() {
        is.part("promise 16: 'NONE: none, no such SHEET, q; it is FORGED'");
        TuneHouse x = secondForged();
        for (int far : NO_SHEETS) {
            is.due("SHEET " + far, x.source(far, 0), NONE);
        }
        for (int q : new int[] {-1, 2, LOW, HIGH}) {
            is.due("q " + q, x.source(1, q), NONE);
        }
        is.due("FORGED", x.source(1, 1), NONE);
        is.due("not yet FORGED", x.source(1, 0), 0);
        is.due("none", x.source(0, 0), NONE);
    }

    private static void changesRefused() {
        is.part("promise 17: 'NONE likewise (but for none)'");
        TuneHouse x = secondForged();
        for (int far : NO_SHEETS) {
            is.due("SHEET " + far, x.changes(far, 0), NONE);
        }
        for (int q : new int[] {-1, 2, LOW, HIGH}) {
            is.due("q " + q, x.changes(0, q), NONE);
        }
        is.due("FORGED", x.changes(1, 1), NONE);
        is.due("not yet FORGED", x.changes(1, 0), 0);
        is.due("none: ANEW", x.changes(0, 0), 30);
    }

    private static void allRefused() {
        is.part("promise 18: 'NONE: q'");
        TuneHouse x = secondForged();
        for (int q : new int[] {-1, 2, 1000, LOW, HIGH}) {
            is.due("q " + q, x.all(q), NONE);
        }
        is.due("DAY 0", x.all(0), 30);
        is.due("NOW", x.all(1), 30);
    }

    private static void allOfNone() {
        is.part("promise 18: 'the CHANGES of all SHEETS not FORGED', none and many");
        TuneHouse x = new TuneHouse();
        is.due("no SHEETS", x.all(0), 0);
        x.sheet(0, 1900, 0);
        is.due("one", x.all(0), 30);
        x.forge(0);
        is.due("none that is not FORGED", x.all(0), 0);
        TuneHouse y = fullHouse();
        y.price(4, 10000);
        is.due("20, all from the first", y.all(0), 10000);
        y.price(4, 0);
        is.due("20, ANEW 0", y.all(0), 0);
        y.note(0, 30, 1);
        y.price(4, 1);
        is.due("the first and the next are ANEW", y.all(0), 2);
    }

    private static void doubtMargin() {
        is.part("promise 19: 'DOUBT with a margin (0 .. 10,000)'");
        TuneHouse x = ofOneYear(1, 16, 1);
        is.due("margin 0", x.doubt(2, 0, 0), 0);
        is.due("margin 10000", x.doubt(2, 10000, 0), 1);
        for (int margin : new int[] {-1, 10001, LOW, HIGH}) {
            is.due("margin " + margin, x.doubt(2, margin, 0), NONE);
            is.due("margin " + margin + " of the first", x.doubt(0, margin, 0), NONE);
        }
    }

    private static void doubtRefused() {
        is.part("promise 19: 'NONE likewise'");
        TuneHouse x = secondForged();
        for (int far : NO_SHEETS) {
            is.due("SHEET " + far, x.doubt(far, 0, 0), NONE);
        }
        for (int q : new int[] {-1, 2, LOW, HIGH}) {
            is.due("q " + q, x.doubt(0, 0, q), NONE);
        }
        is.due("FORGED", x.doubt(1, 0, 1), NONE);
        is.due("not yet FORGED", x.doubt(1, 0, 0), 0);
        is.due("without a SOURCE", x.doubt(0, 0, 1), 0);
    }

    private static void habitRefused() {
        is.part("promise 20: '-1,000,000: no such HANDS, one HAND, q, what'");
        TuneHouse x = ofOneYear(1, 1);
        x.doubles(0, 1);
        for (int hand : new int[] {-1, 6, LOW, HIGH}) {
            is.due("HAND " + hand, x.habit(hand, 1, 0, 1), -1000000);
            is.due("against HAND " + hand, x.habit(0, hand, 0, 1), -1000000);
        }
        for (int hand = 0; hand <= 5; hand++) {
            is.due("one HAND, " + hand, x.habit(hand, hand, 0, 0), -1000000);
        }
        for (int q : new int[] {-1, 1, LOW, HIGH}) {
            is.due("q " + q, x.habit(0, 1, q, 1), -1000000);
        }
        for (int what : new int[] {-1, 2, LOW, HIGH}) {
            is.due("what " + what, x.habit(0, 1, 0, what), -1000000);
        }
        is.due("what 0", x.habit(0, 1, 0, 0), 0);
        is.due("what 1", x.habit(0, 1, 0, 1), 1);
    }

    private static void spanNoSuchWords() {
        is.part("promise 21: 'NONE: no such WORDS .. q'");
        TuneHouse x = new TuneHouse();
        x.sheet(0, 1900, 9);
        x.sheet(0, 1800, 0);
        for (int words : new int[] {-1, 10, LOW, HIGH}) {
            is.due("WORDS " + words, x.span(words, 0, false), NONE);
            is.due("WORDS " + words + ", the greatest", x.span(words, 0, true), NONE);
        }
        for (int q : new int[] {-1, 1, LOW, HIGH}) {
            is.due("q " + q, x.span(9, q, false), NONE);
            is.due("q " + q + ", the greatest", x.span(0, q, true), NONE);
        }
        is.due("the highest WORDS", x.span(9, 0, false), 1900);
        is.due("the lowest WORDS", x.span(0, 0, true), 1800);
    }

    private static void spanNoSheet() {
        is.part("promise 21: 'NONE: .. no SHEET'");
        TuneHouse x = new TuneHouse();
        for (int words = 0; words <= 9; words++) {
            is.due("WORDS " + words, x.span(words, 0, words % 2 == 0), NONE);
        }
        x.sheet(0, 0, 4);
        is.due("the first YEAR of all is one", x.span(4, 0, true), 0);
        is.due("WORDS below", x.span(3, 0, true), NONE);
        is.due("WORDS above", x.span(5, 0, false), NONE);
        x.forge(0);
        is.due("a FORGED one alone", x.span(4, 0, true), NONE);
    }

    private static void countOthers() {
        is.part("promise 22: 'NONE for others'");
        TuneHouse x = secondForged();
        for (int what : new int[] {-1, 6, 7, LOW, HIGH}) {
            is.due("count(" + what + ")", x.count(what), NONE);
        }
        is.due("the first", x.count(0), 1);
        is.due("the last", x.count(5), 0);
    }

    private static void countAtTheMost() {
        is.part("promise 22, all at the most");
        TuneHouse x = fullHouse();
        x.days(1000);
        for (int n = 0; n < 24; n++) {
            x.note(19, 30, 1);
        }
        for (int i = 0; i < 20; i++) {
            x.forge(i);
        }
        for (int i = 0; i < 60; i++) {
            x.doubles(2 * (i % 10), 2 * (i / 10) + 1);
        }
        for (int i = 0; i < 200; i++) {
            x.correct(19, i % 24, 31, 1);
        }
        int[] due = {1000, 20, 20, 24, 200, 60};
        for (int what = 0; what < due.length; what++) {
            is.due("count(" + what + ")", x.count(what), due[what]);
        }
    }
}
