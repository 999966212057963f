/** Each sentence of the terms that names a boundary case, by a test of its own; the part quotes it. */
public final class TermsEdgeTest extends Houses {
    private static final int[] NO_DAYS_YET = {-1, 1, 1000, 1001, LOW, HIGH};
    private static final Checks is = new Checks();

    public static void main(String[] args) {
        nowAtFirst();
        nowAtMost();
        sheetsAtMost();
        hands();
        years();
        wordsOfSheets();
        notesAtMost();
        pitches();
        beats();
        gaps();
        correctedFromThatDay();
        correctedOnTheFirstDay();
        forgedFromThatDay();
        forgedOnTheFirstDay();
        knownAtAllTimes();
        daysAsked();
        daysRefusedAtFirst();
        pricesAtFirst();
        pricesAtTheTop();
        pricesOfNothing();
        pricesBeyond();
        pricesAtAnyTime();
        noNotesToAlign();
        notesInOrder();
        mostOfSteps();
        beatsHaveNoMost();
        gapOfBoth();
        oneAlone();
        gapAlone();
        keysAtMost();
        leastOfKeys();
        keyNearestToNone();
        keyBelowNone();
        twoWhereItCan();
        elseTheFirstAlone();
        elseTheOtherAlone();
        fromItsLastColumnBack();
        linkedAtMostTheBar();
        linksJoin();
        familyOfForged();
        earlierByYear();
        earlierByNumber();
        sourceWithTheLeast();
        sourceOfSeveral();
        sourceOfForged();
        sourceBelowAnew();
        changesOrAnew();
        doubtAtMost();
        doubtOfFarOnes();
        doubtOfOthers();
        doubtWithoutSource();
        habitOfTheseHands();
        habitOfForged();
        habitOfGaps();
        habitOfTheFirst();
        wordsOfAFamily();
        spanOfOne();
        spanOfForged();
        noneIsBelow();
        is.end();
    }

    private static void nowAtFirst() {
        is.part("'NOW is 0 at first'");
        TuneHouse x = new TuneHouse();
        is.due("NOW", x.count(0), 0);
        is.due("all of NOW", x.all(0), 0);
        is.due("all of the next DAY", x.all(1), NONE);
    }

    private static void nowAtMost() {
        is.part("'1,000 at most'");
        TuneHouse x = house(tune(10, 1));
        is.due("to the last DAY", x.days(1000), 1000);
        is.due("one more", x.days(1), NONE);
        is.due("NOW", x.count(0), 1000);
        is.due("corrected on the last DAY", x.correct(0, 0, 20, 2), true);
        is.due("as known then", x.at(0, 0, 1000, 0), 20);
        is.due("as known the DAY before", x.at(0, 0, 999, 0), 10);
        is.dueNoNote(x, 0, 0, 1001, 0);
    }

    private static void sheetsAtMost() {
        is.part("'SHEETS (20 at most)'");
        TuneHouse x = fullHouse();
        is.due("SHEETS", x.count(1), 20);
        is.due("one more", x.sheet(0, 0, 0), NONE);
        is.due("SHEETS still", x.count(1), 20);
        is.due("a NOTE of the last", x.note(19, 30, 1), 1);
        is.due("a NOTE of one more", x.note(20, 30, 1), NONE);
        is.due("the last from the one before", x.distance(19, 18, 0), 5);
        is.due("the last from the first", x.distance(0, 19, 0), 5);
        is.due("kin of the last", x.kin(19, 4, 0), 1);
        is.due("kin of the others", x.kin(18, 4, 0), 19);
        is.due("kin of all", x.kin(19, 5, 0), 20);
        is.due("all CHANGES", x.all(0), 30 + 5);
    }

    private static void hands() {
        is.part("'a HAND (0 .. 5)'");
        TuneHouse x = new TuneHouse();
        for (int hand = 0; hand <= 5; hand++) {
            is.due("HAND " + hand, x.sheet(hand, 1900, 0), hand);
            x.note(hand, 30, 1);
        }
        x.doubles(0, 5);
        is.due("the lowest against the highest", x.habit(0, 5, 0, 1), 1);
        is.due("the highest against the lowest", x.habit(5, 0, 0, 1), 1);
        for (int hand : new int[] {-1, 6, LOW, HIGH}) {
            is.due("HAND " + hand, x.sheet(hand, 1900, 0), NONE);
            is.due("habit of " + hand, x.habit(hand, 0, 0, 1), NO_HABIT);
            is.due("habit against " + hand, x.habit(0, hand, 0, 1), NO_HABIT);
        }
        is.due("SHEETS", x.count(1), 6);
    }

    private static void years() {
        is.part("'a YEAR (0 .. 3,000)'");
        TuneHouse x = new TuneHouse();
        is.due("the highest", x.sheet(0, 3000, 0), 0);
        is.due("the lowest", x.sheet(0, 0, 0), 1);
        for (int year : new int[] {-1, 3001, LOW, HIGH}) {
            is.due("YEAR " + year, x.sheet(0, year, 0), NONE);
        }
        is.due("SHEETS", x.count(1), 2);
        is.due("the least", x.span(0, 0, false), 0);
        is.due("the greatest", x.span(0, 0, true), 3000);
        is.due("the EARLIER one", x.source(0, 0), 1);
        is.due("none is EARLIER", x.source(1, 0), NONE);
    }

    private static void wordsOfSheets() {
        is.part("'WORDS (0 .. 9)'");
        TuneHouse x = new TuneHouse();
        is.due("the highest", x.sheet(0, 1900, 9), 0);
        is.due("the lowest", x.sheet(0, 1800, 0), 1);
        for (int words : new int[] {-1, 10, 32, 41, LOW, HIGH}) {
            is.due("WORDS " + words, x.sheet(0, 1700, words), NONE);
            is.due("span of " + words, x.span(words, 0, true), NONE);
            is.due("least span of " + words, x.span(words, 0, false), NONE);
        }
        is.due("SHEETS", x.count(1), 2);
        is.due("bits of both", x.sung(0, 0, 0), 1 + 512);
        is.due("span of the highest", x.span(9, 0, true), 1900);
        is.due("span of the lowest", x.span(0, 0, true), 1800);
    }

    private static void notesAtMost() {
        is.part("'a TUNE: up to 24 NOTES'");
        TuneHouse x = house(alike(23, 30, 1), alike(24, 30, 1));
        is.due("one alone", x.distance(0, 1, 0), 5);
        is.due("the 24th", x.note(0, 30, 4), 24);
        is.due("the 25th", x.note(0, 30, 4), NONE);
        is.due("the 25th of the other", x.note(1, 30, 1), NONE);
        is.due("the 25th, a GAP", x.note(1, NONE, 0), NONE);
        is.due("BEATS of the 24th", x.at(0, 23, 0, 1), 4);
        is.dueNoNote(x, 0, 24, 0, 0);
        is.due("the 24th is aligned", x.distance(0, 1, 0), 3);
        is.due("in the last COLUMN", x.column(0, 1, 0, 23, 0), 23);
        is.due("the 24th is corrected", x.correct(0, 23, 30, 1), true);
        is.due("and then alike", x.distance(0, 1, 0), 0);
        is.due("the 25th is not", x.correct(0, 24, 30, 1), false);
    }

    private static void pitches() {
        is.part("'a PITCH (0 .. 60)'");
        TuneHouse x = house(tune());
        is.due("the lowest", x.note(0, 0, 1), 1);
        is.due("the highest", x.note(0, 60, 1), 2);
        is.due("the lowest told", x.at(0, 0, 0, 0), 0);
        is.due("the highest told", x.at(0, 1, 0, 0), 60);
        for (int pitch : new int[] {-2, 61, LOW, HIGH}) {
            is.due("PITCH " + pitch, x.note(0, pitch, 1), NONE);
            is.due("corrected to " + pitch, x.correct(0, 0, pitch, 1), false);
        }
        is.due("NOTES", x.count(3), 2);
        is.due("corrections", x.count(4), 0);
        is.due("corrected to the highest", x.correct(0, 0, 60, 1), true);
        is.due("corrected to the lowest", x.correct(0, 1, 0, 1), true);
        is.due("the highest now", x.at(0, 0, 0, 0), 60);
        is.due("the lowest now", x.at(0, 1, 0, 0), 0);
    }

    private static void beats() {
        is.part("'BEATS (1 .. 16)'");
        TuneHouse x = house(tune());
        is.due("the fewest", x.note(0, 30, 1), 1);
        is.due("the most", x.note(0, 30, 16), 2);
        is.due("the fewest told", x.at(0, 0, 0, 1), 1);
        is.due("the most told", x.at(0, 1, 0, 1), 16);
        for (int beats : new int[] {0, 17, -1, LOW, HIGH}) {
            is.due("BEATS " + beats, x.note(0, 30, beats), NONE);
            is.due("corrected to " + beats, x.correct(0, 0, 30, beats), false);
        }
        is.due("NOTES", x.count(3), 2);
        is.due("corrections", x.count(4), 0);
        is.due("corrected to the most", x.correct(0, 0, 30, 16), true);
        is.due("corrected to the fewest", x.correct(0, 1, 30, 1), true);
        is.due("the most now", x.at(0, 0, 0, 1), 16);
        is.due("the fewest now", x.at(0, 1, 0, 1), 1);
    }

    private static void gaps() {
        is.part("'a GAP (PITCH NONE, BEATS 0)'");
        TuneHouse x = house(tune(20, 5));
        is.due("a GAP with BEATS", x.note(0, NONE, 7), 2);
        is.due("its PITCH", x.at(0, 1, 0, 0), NONE);
        is.due("its BEATS", x.at(0, 1, 0, 1), 0);
        is.due("corrected to a GAP", x.correct(0, 0, NONE, 7), true);
        is.due("its PITCH", x.at(0, 0, 0, 0), NONE);
        is.due("its BEATS", x.at(0, 0, 0, 1), 0);
        is.due("corrected to a NOTE", x.correct(0, 1, 0, 1), true);
        is.due("its PITCH", x.at(0, 1, 0, 0), 0);
        is.due("its BEATS", x.at(0, 1, 0, 1), 1);
    }

    private static void correctedFromThatDay() {
        is.part("'A NOTE may be corrected, as known from that DAY on'");
        TuneHouse x = house(tune(20, 1), tune(20, 1));
        x.days(5);
        x.correct(1, 0, 20, 4);
        x.days(5);
        x.correct(1, 0, 20, 8);
        int[] days = {0, 4, 5, 9, 10};
        int[] due = {1, 1, 4, 4, 8};
        for (int d = 0; d < days.length; d++) {
            is.due("BEATS on " + days[d], x.at(1, 0, days[d], 1), due[d]);
            is.due("DISTANCE on " + days[d], x.distance(0, 1, days[d]), due[d] - 1);
            is.due("CHANGES on " + days[d], x.changes(1, days[d]), due[d] - 1);
            is.due("the other's on " + days[d], x.at(0, 0, days[d], 1), 1);
        }
    }

    private static void correctedOnTheFirstDay() {
        is.part("'as known from that DAY on', the first DAY");
        TuneHouse x = house(tune(20, 1), tune(20, 1));
        x.correct(1, 0, 20, 4);
        is.due("on DAY 0", x.distance(0, 1, 0), 3);
        x.correct(1, 0, 20, 2);
        is.due("again on DAY 0", x.distance(0, 1, 0), 1);
        x.days(1);
        is.due("on DAY 1", x.distance(0, 1, 1), 1);
        is.due("on DAY 0 still", x.at(1, 0, 0, 1), 2);
    }

    private static void forgedFromThatDay() {
        is.part("'a SHEET may be told FORGED, as known from that DAY on'");
        TuneHouse x = house(tune(20, 1), tune(20, 1));
        x.doubles(0, 1);
        x.days(5);
        x.forge(0);
        x.days(5);
        for (int q : new int[] {0, 4}) {
            is.due("FAMILY on " + q, x.family(0, 0, q), 0);
            is.due("SOURCE on " + q, x.source(1, q), 0);
            is.due("all on " + q, x.all(q), 30);
            is.due("HABIT on " + q, x.habit(0, 1, q, 1), 1);
            is.due("SPAN on " + q, x.span(0, q, true), 1000);
        }
        for (int q : new int[] {5, 6, 10}) {
            is.due("FAMILY on " + q, x.family(0, 0, q), NONE);
            is.due("SOURCE on " + q, x.source(1, q), NONE);
            is.due("CHANGES on " + q, x.changes(1, q), 30);
            is.due("HABIT on " + q, x.habit(0, 1, q, 1), 0);
            is.due("SPAN on " + q, x.span(0, q, true), NONE);
        }
    }

    private static void forgedOnTheFirstDay() {
        is.part("'told FORGED, as known from that DAY on', the first DAY");
        TuneHouse x = house(tune(20, 1), tune(20, 1));
        x.forge(1);
        is.due("kin on DAY 0", x.kin(0, 0, 0), 1);
        is.due("CHANGES on DAY 0", x.changes(1, 0), NONE);
        x.days(1);
        is.due("kin on DAY 1", x.kin(0, 0, 1), 1);
        is.due("all on DAY 0", x.all(0), 30);
    }

    private static void knownAtAllTimes() {
        is.part("'NOTES and SHEETS are known at all times'");
        TuneHouse x = house(tune(20, 1));
        is.due("all at first", x.all(0), 30);
        x.days(7);
        x.sheet(1, 900, 5);
        is.due("CHANGES of a SHEET of DAY 7 on DAY 0", x.changes(1, 0), 30);
        is.due("CHANGES from it on DAY 0", x.changes(0, 0), 5);
        x.note(1, 20, 1);
        is.due("a NOTE of DAY 7 on DAY 0", x.at(1, 0, 0, 0), 20);
        is.due("CHANGES then", x.changes(0, 0), 0);
        is.due("kin on DAY 0", x.kin(0, 0, 0), 2);
        is.due("SPAN on DAY 0", x.span(5, 0, false), 900);
        is.due("all on DAY 0", x.all(0), 30);
        is.due("all on DAY 7", x.all(7), 30);
    }

    private static void daysAsked() {
        is.part("'as known in a DAY q (0 .. NOW)'");
        TuneHouse x = house(tune(20, 1), tune(20, 1));
        x.days(3);
        for (int q = 0; q <= 3; q++) {
            is.due("at on " + q, x.at(0, 0, q, 0), 20);
            is.due("distance on " + q, x.distance(0, 1, q), 0);
            is.due("key on " + q, x.key(0, 1, q), 0);
            is.due("column on " + q, x.column(0, 1, q, 0, 0), 0);
            is.due("family on " + q, x.family(1, 0, q), 0);
            is.due("kin on " + q, x.kin(1, 0, q), 2);
            is.due("sung on " + q, x.sung(1, 0, q), 3);
            is.due("source on " + q, x.source(1, q), 0);
            is.due("changes on " + q, x.changes(1, q), 0);
            is.due("all on " + q, x.all(q), 30);
            is.due("doubt on " + q, x.doubt(1, 0, q), 0);
            is.due("habit on " + q, x.habit(0, 1, q, 0), 0);
            is.due("span on " + q, x.span(1, q, true), 1001);
        }
        for (int q : new int[] {-1, 4, 1000, LOW, HIGH}) {
            dueRefusedOn(x, q);
        }
    }

    private static void daysRefusedAtFirst() {
        is.part("'(0 .. NOW); others: refused', NOW 0");
        TuneHouse x = house(tune(20, 1), tune(20, 1));
        for (int q : NO_DAYS_YET) {
            dueRefusedOn(x, q);
        }
        is.due("all on 0", x.all(0), 30);
    }

    /** The house has two SHEETS of a NOTE each. */
    private static void dueRefusedOn(TuneHouse x, int q) {
        is.dueNoNote(x, 0, 0, q, 0);
        is.due("distance on " + q, x.distance(0, 1, q), NONE);
        is.due("key on " + q, x.key(0, 1, q), NO_KEY);
        is.due("column on " + q, x.column(0, 1, q, 0, 0), NONE);
        is.due("family on " + q, x.family(1, 0, q), NONE);
        is.due("kin on " + q, x.kin(1, 0, q), NONE);
        is.due("sung on " + q, x.sung(1, 0, q), NONE);
        is.due("source on " + q, x.source(1, q), NONE);
        is.due("changes on " + q, x.changes(1, q), NONE);
        is.due("all on " + q, x.all(q), NONE);
        is.due("doubt on " + q, x.doubt(1, 0, q), NONE);
        is.due("habit on " + q, x.habit(0, 1, q, 0), NO_HABIT);
        is.due("span on " + q, x.span(1, q, true), NONE);
    }

    /** SHEETS 0 and 1 differ by a step, 0 and 2 by a beat, 3 is empty, 4 is far off in its last NOTE. */
    private static TuneHouse priced() {
        return house(tune(20, 1, 30, 1), tune(20, 1, 31, 1), tune(20, 1, 30, 2), tune(), tune(20, 1, 60, 1));
    }

    private static void pricesAtFirst() {
        is.part("PRICES, '2', '8', '1', '5', '30'");
        TuneHouse x = priced();
        is.due("STEP", x.distance(0, 1, 0), 2);
        is.due("BEAT", x.distance(0, 2, 0), 1);
        is.due("OUT, twice", x.distance(0, 3, 0), 2 * 5);
        is.due("MOST", x.distance(0, 4, 0), 8);
        is.due("ANEW", x.changes(0, 0), 30);
    }

    private static void pricesAtTheTop() {
        is.part("PRICES, '20', '200', '20', '200', '10,000'");
        TuneHouse x = priced();
        int[] tops = {20, 200, 20, 200, 10000};
        for (int which = 0; which < tops.length; which++) {
            is.due(which + " of " + tops[which], x.price(which, tops[which]), true);
        }
        is.due("STEP", x.distance(0, 1, 0), 20);
        is.due("BEAT", x.distance(0, 2, 0), 20);
        is.due("OUT, twice", x.distance(0, 3, 0), 2 * 200);
        is.due("MOST", x.distance(0, 4, 0), 200);
        is.due("ANEW", x.changes(0, 0), 10000);
    }

    private static void pricesOfNothing() {
        is.part("PRICES, '0 ..'");
        TuneHouse x = priced();
        is.due("ANEW 0", x.price(4, 0), true);
        is.due("by ANEW", x.changes(0, 0), 0);
        is.due("BEAT 0", x.price(2, 0), true);
        is.due("by BEAT", x.distance(0, 2, 0), 0);
        is.due("STEP 0", x.price(0, 0), true);
        is.due("by STEP", x.distance(0, 4, 0), 0);
        x.price(0, 2);
        is.due("by STEP 2", x.distance(0, 4, 0), 8);
        is.due("MOST 0", x.price(1, 0), true);
        is.due("by MOST", x.distance(0, 4, 0), 0);
        is.due("by OUT 5", x.distance(0, 3, 0), 10);
        is.due("OUT 0", x.price(3, 0), true);
        is.due("by OUT", x.distance(0, 3, 0), 0);
    }

    private static void pricesBeyond() {
        is.part("PRICES, beyond");
        TuneHouse x = priced();
        int[] tops = {20, 200, 20, 200, 10000};
        for (int which = 0; which < tops.length; which++) {
            for (int coins : new int[] {-1, tops[which] + 1, LOW, HIGH}) {
                is.due(which + " of " + coins, x.price(which, coins), false);
            }
        }
        is.due("STEP", x.distance(0, 1, 0), 2);
        is.due("BEAT", x.distance(0, 2, 0), 1);
        is.due("OUT, twice", x.distance(0, 3, 0), 2 * 5);
        is.due("MOST", x.distance(0, 4, 0), 8);
        is.due("ANEW", x.changes(0, 0), 30);
    }

    private static void pricesAtAnyTime() {
        is.part("'PRICES (at any time alike)'");
        TuneHouse x = priced();
        x.days(4);
        is.due("before, on DAY 0", x.distance(1, 0, 0), 2);
        x.price(0, 3);
        x.price(4, 99);
        for (int q : new int[] {0, 3, 4}) {
            is.due("DISTANCE on " + q, x.distance(0, 1, q), 3);
            is.due("the other way on " + q, x.distance(1, 0, q), 3);
            is.due("price of the COLUMN on " + q, x.column(0, 1, q, 1, 2), 3);
            is.due("CHANGES on " + q, x.changes(0, q), 99);
        }
    }

    private static void noNotesToAlign() {
        is.part("'so that all NOTES of both come', where there are none");
        TuneHouse x = house(tune(), tune(), tune(20, 1, NONE, 0));
        is.due("none of either", x.distance(0, 1, 0), 0);
        is.due("KEY of none", x.key(0, 1, 0), 0);
        is.due("no COLUMN", x.column(0, 1, 0, 0, 2), NONE);
        is.due("none of t", x.distance(0, 2, 0), 5);
        is.due("its first COLUMN", x.column(0, 2, 0, 0, 1), 0);
        is.due("its last COLUMN", x.column(0, 2, 0, 1, 1), 1);
        is.due("past it", x.column(0, 2, 0, 2, 2), NONE);
        is.due("none of u", x.distance(2, 0, 0), 5);
        is.due("its first COLUMN", x.column(2, 0, 0, 0, 0), 0);
        is.due("its last COLUMN", x.column(2, 0, 0, 1, 0), 1);
        is.due("past it", x.column(2, 0, 0, 2, 2), NONE);
        is.due("KEY of one without", x.key(2, 0, 0), 0);
    }

    private static void notesInOrder() {
        is.part("'in order'");
        TuneHouse x = house(tune(20, 1, 40, 1), tune(40, 1, 20, 1));
        // Crosswise they would cost nothing; in order one pair meets, and two stand alone.
        is.due("crosswise", x.distance(0, 1, 0), 10);
    }

    private static void mostOfSteps() {
        is.part("'STEP times how far .., but at most MOST'");
        int[] off = {0, 1, 3, 4, 5, 30};
        int[] due = {0, 2, 6, 8, 8, 8};
        for (int d = 0; d < off.length; d++) {
            TuneHouse x = house(tune(10, 1, 20, 1, 30, 1), tune(10, 1, 20, 1, 30 + off[d], 1));
            is.due("higher by " + off[d], x.distance(0, 1, 0), due[d]);
            is.due("lower by " + off[d], x.distance(1, 0, 0), due[d]);
            is.due("the COLUMN, " + off[d], x.column(0, 1, 0, 2, 2), due[d]);
        }
        TuneHouse y = house(tune(10, 1, 20, 1), tune(10, 1, 21, 1));
        y.price(1, 1);
        is.due("MOST below STEP", y.distance(0, 1, 0), 1);
    }

    private static void beatsHaveNoMost() {
        is.part("'and BEAT times how far their BEATS differ'");
        TuneHouse x = house(tune(0, 1), tune(60, 16));
        x.price(3, 200);
        is.due("over MOST", x.distance(0, 1, 0), 8 + 15);
        is.due("the other way", x.column(1, 0, 0, 0, 2), 8 + 15);
        x.price(2, 20);
        is.due("BEAT 20", x.distance(0, 1, 0), 8 + 300);
        x.price(2, 0);
        is.due("BEAT 0", x.distance(0, 1, 0), 8);
    }

    private static void gapOfBoth() {
        is.part("'0, if one of both is a GAP'");
        TuneHouse x = house(tune(NONE, 0), tune(60, 16), tune(NONE, 0));
        int[][] pairs = {{0, 1}, {1, 0}, {1, 2}, {2, 1}, {0, 2}, {2, 0}};
        x.price(0, 20);
        x.price(1, 200);
        x.price(2, 20);
        x.price(3, 200);
        for (int[] p : pairs) {
            String of = " of " + p[0] + ", " + p[1];
            is.due("DISTANCE" + of, x.distance(p[0], p[1], 0), 0);
            is.due("t's NOTE" + of, x.column(p[0], p[1], 0, 0, 0), 0);
            is.due("u's NOTE" + of, x.column(p[0], p[1], 0, 0, 1), 0);
            is.due("price" + of, x.column(p[0], p[1], 0, 0, 2), 0);
            is.due("KEY" + of, x.key(p[0], p[1], 0), 0);
        }
    }

    private static void oneAlone() {
        is.part("'One alone costs OUT'");
        TuneHouse x = house(tune(), tune(60, 16), tune());
        int[][] pairs = {{0, 1}, {1, 0}, {1, 2}, {2, 1}};
        for (int out : new int[] {5, 0, 200}) {
            x.price(3, out);
            for (int[] p : pairs) {
                String of = " of " + p[0] + ", " + p[1] + " by " + out;
                is.due("DISTANCE" + of, x.distance(p[0], p[1], 0), out);
                is.due("price" + of, x.column(p[0], p[1], 0, 0, 2), out);
                is.due("no second COLUMN" + of, x.column(p[0], p[1], 0, 1, 2), NONE);
            }
        }
    }

    private static void gapAlone() {
        is.part("'a GAP alone 0'");
        TuneHouse x = house(tune(), tune(NONE, 0), tune(), tune(30, 1), tune(NONE, 0, 30, 1), tune(30, 1));
        int[][] pairs = {{0, 1}, {1, 0}, {1, 2}, {2, 1}, {3, 4}, {4, 3}, {4, 5}, {5, 4}};
        x.price(3, 200);
        for (int[] p : pairs) {
            String of = " of " + p[0] + ", " + p[1];
            is.due("DISTANCE" + of, x.distance(p[0], p[1], 0), 0);
            is.due("price" + of, x.column(p[0], p[1], 0, 0, 2), 0);
        }
        is.due("the GAP stands alone", x.column(3, 4, 0, 0, 0), NONE);
        is.due("and the NOTES meet", x.column(3, 4, 0, 1, 1), 1);
    }

    private static void keysAtMost() {
        is.part("'with a KEY -12 .. 12'");
        TuneHouse x = house(tune(30, 1), tune(42, 1), tune(43, 1), tune(18, 1), tune(17, 1));
        int[] other = {1, 2, 3, 4};
        int[] sums = {0, 2, 0, 2};
        int[] keys = {12, 12, -12, -12};
        for (int i = 0; i < other.length; i++) {
            is.due("DISTANCE from " + other[i], x.distance(0, other[i], 0), sums[i]);
            is.due("DISTANCE to " + other[i], x.distance(other[i], 0, 0), sums[i]);
            is.due("KEY of it", x.key(0, other[i], 0), keys[i]);
            is.due("KEY of it, the other way", x.key(other[i], 0, 0), -keys[i]);
        }
    }

    private static void leastOfKeys() {
        is.part("'the least sum of any ALIGNMENT'");
        TuneHouse x = house(tune(20, 1), tune(21, 1), tune(19, 1), tune(30, 1));
        x.price(0, 1);
        // With KEY 0 it is 1 already: one less is less.
        is.due("1 higher", x.distance(0, 1, 0), 0);
        is.due("its KEY", x.key(0, 1, 0), 1);
        is.due("1 lower", x.distance(0, 2, 0), 0);
        is.due("its KEY", x.key(0, 2, 0), -1);
        is.due("10 higher", x.distance(0, 3, 0), 0);
        is.due("its KEY", x.key(0, 3, 0), 10);
        // The first of t stands alone, whatever the KEY; the other meets dearly with KEY 0, best with 1.
        TuneHouse y = house(tune(60, 1, 20, 1), tune(21, 2));
        is.due("past a dear first NOTE", y.distance(0, 1, 0), 5 + 1);
        is.due("the other way", y.distance(1, 0, 0), 5 + 1);
        is.due("its KEY", y.key(0, 1, 0), 1);
    }

    private static void keyNearestToNone() {
        is.part("'the one nearest to 0'");
        TuneHouse x = house(tune(20, 1, 20, 1), tune(24, 1, 25, 1), tune(15, 1, 16, 1), tune(19, 1, 21, 1),
            tune(60, 1, 60, 1));
        is.due("4 or 5", x.key(0, 1, 0), 4);
        is.due("-4 or -5", x.key(0, 2, 0), -4);
        is.due("-1, 0 or 1", x.key(0, 3, 0), 0);
        is.due("any of all", x.key(0, 4, 0), 0);
    }

    private static void keyBelowNone() {
        is.part("'of two the one below 0'");
        TuneHouse x = house(tune(20, 1, 20, 1), tune(32, 1, 8, 1), tune(21, 1, 19, 1));
        x.price(1, 1);
        x.price(3, 200);
        is.due("-12 or 12", x.key(0, 1, 0), -12);
        is.due("-12 or 12, the other way", x.key(1, 0, 0), -12);
        is.due("its DISTANCE", x.distance(0, 1, 0), 1);
        is.due("the first misses", x.column(0, 1, 0, 0, 2), 1);
        is.due("the last meets", x.column(0, 1, 0, 1, 2), 0);
        is.due("-1 or 1", x.key(0, 2, 0), -1);
        is.due("-1 or 1, the other way", x.key(2, 0, 0), -1);
    }

    private static void twoWhereItCan() {
        is.part("'takes, where it can, two'");
        TuneHouse x = house(tune(0, 1), tune(60, 1));
        x.price(3, 4);
        // 8 together, 4 and 4 alone
        is.dueColumns(x, 0, 1, new int[][] {{0, 0, 8}});
        is.dueColumns(x, 1, 0, new int[][] {{0, 0, 8}});
    }

    private static void elseTheFirstAlone() {
        is.part("'else t's NOTE alone'");
        TuneHouse x = house(tune(0, 1), tune(60, 1));
        x.price(3, 3);
        is.dueColumns(x, 0, 1, new int[][] {{NONE, 0, 3}, {0, NONE, 3}});
        is.dueColumns(x, 1, 0, new int[][] {{NONE, 0, 3}, {0, NONE, 3}});
    }

    private static void elseTheOtherAlone() {
        is.part("'else u's alone'");
        TuneHouse x = house(tune(20, 1, 30, 1), tune(20, 1, 30, 1, 41, 16), tune(30, 1));
        is.dueColumns(x, 0, 1, new int[][] {{0, 0, 0}, {1, 1, 0}, {NONE, 2, 5}});
        is.dueColumns(x, 1, 0, new int[][] {{0, 0, 0}, {1, 1, 0}, {2, NONE, 5}});
        // Nothing of t is left where the first of u stands alone.
        is.dueColumns(x, 2, 0, new int[][] {{NONE, 0, 5}, {0, 1, 0}});
    }

    private static void fromItsLastColumnBack() {
        is.part("'from its last COLUMN back'");
        TuneHouse x = house(tune(20, 1, 20, 1, 20, 1), tune(20, 1), tune(NONE, 0, NONE, 0), tune(20, 1, 20, 1));
        is.dueColumns(x, 0, 1, new int[][] {{0, NONE, 5}, {1, NONE, 5}, {2, 0, 0}});
        is.dueColumns(x, 1, 0, new int[][] {{NONE, 0, 5}, {NONE, 1, 5}, {0, 2, 0}});
        is.dueColumns(x, 2, 1, new int[][] {{0, NONE, 0}, {1, 0, 0}});
        is.dueColumns(x, 0, 3, new int[][] {{0, NONE, 5}, {1, 0, 0}, {2, 1, 0}});
    }

    private static void linkedAtMostTheBar() {
        is.part("'LINKED whose DISTANCE is at most the bar'");
        TuneHouse x = ofOneYear(1, 4, 4);
        is.due("below", x.kin(0, 2, 0), 1);
        is.due("at it", x.kin(0, 3, 0), 3);
        is.due("above", x.kin(0, 4, 0), 3);
        is.due("bar 0, alike", x.kin(1, 0, 0), 2);
        is.due("bar 0, not alike", x.kin(0, 0, 0), 1);
        TuneHouse y = house(alike(24, 0, 1), alike(24, 60, 16));
        for (int which = 0; which < 4; which++) {
            y.price(which, which % 2 == 0 ? 20 : 200);
        }
        is.due("the farthest of all", y.distance(0, 1, 0), 9600);
        is.due("just below it", y.family(1, 9599, 0), 1);
        is.due("just at it", y.family(1, 9600, 0), 0);
        is.due("the highest bar", y.family(1, 10000, 0), 0);
    }

    private static void linksJoin() {
        is.part("'a FAMILY is what LINKS join'");
        TuneHouse x = ofOneYear(1, 13, 10, 7, 4, 16);
        is.due("one end, through four", x.family(5, 3, 0), 0);
        is.due("the other end", x.kin(0, 3, 0), 6);
        is.due("no LINK", x.kin(0, 2, 0), 1);
        x.days(1);
        x.forge(3);
        is.due("broken in the middle", x.family(5, 3, 1), 1);
        is.due("one side", x.kin(5, 3, 1), 3);
        is.due("the other side", x.kin(0, 3, 1), 2);
        is.due("not yet broken", x.kin(0, 3, 0), 6);
    }

    private static void familyOfForged() {
        is.part("'FAMILIES by a bar: SHEETS not FORGED'");
        TuneHouse x = ofOneYear(1, 1, 1);
        x.forge(0);
        is.due("the lowest left", x.family(2, 0, 0), 1);
        is.due("how many left", x.kin(2, 10000, 0), 2);
        is.due("their WORDS", x.sung(2, 10000, 0), 2 + 4);
        is.due("FAMILY of a FORGED one", x.family(0, 0, 0), NONE);
        is.due("kin of a FORGED one", x.kin(0, 10000, 0), NONE);
        is.due("WORDS of a FORGED one", x.sung(0, 10000, 0), NONE);
    }

    private static void earlierByYear() {
        is.part("'EARLIER (a lower YEAR'");
        TuneHouse x = new TuneHouse();
        x.sheet(0, 1900, 0);
        x.sheet(0, 1899, 0);
        x.sheet(0, 1901, 0);
        is.due("a lower YEAR, a higher number", x.source(0, 0), 1);
        is.due("the lowest YEAR", x.source(1, 0), NONE);
        is.due("the highest YEAR", x.source(2, 0), 1);
        is.due("EARLIER than the middle", x.doubt(0, 10000, 0), 0);
        is.due("EARLIER than the last", x.doubt(2, 10000, 0), 1);
    }

    private static void earlierByNumber() {
        is.part("'or the same and a lower number)'");
        TuneHouse x = ofOneYear(1, 1, 1);
        is.due("the lowest number", x.source(0, 0), NONE);
        is.due("the next", x.source(1, 0), 0);
        is.due("EARLIER than the next", x.doubt(1, 10000, 0), 0);
        is.due("EARLIER than the last", x.doubt(2, 10000, 0), 1);
    }

    private static void sourceWithTheLeast() {
        is.part("'the one with the least DISTANCE'");
        TuneHouse x = ofOneYear(9, 5, 2, 4, 1);
        is.due("the third of four", x.source(4, 0), 2);
        is.due("its CHANGES", x.changes(4, 0), 1);
        is.due("the second of three", x.source(3, 0), 1);
        is.due("the last of two", x.source(2, 0), 1);
        is.due("the only one", x.source(1, 0), 0);
    }

    private static void sourceOfSeveral() {
        is.part("'(of several the EARLIEST)'");
        TuneHouse x = new TuneHouse();
        int[] years = {1800, 1700, 1700, 1900};
        int[] beats = {3, 1, 3, 2};
        for (int i = 0; i < years.length; i++) {
            x.sheet(0, years[i], 0);
            x.note(i, 30, beats[i]);
        }
        is.due("the lowest YEAR, its lowest number", x.source(3, 0), 1);
        x.days(1);
        x.forge(1);
        is.due("the lowest YEAR left", x.source(3, 1), 2);
        x.forge(2);
        is.due("the one left", x.source(3, 1), 0);
        x.forge(0);
        is.due("none left", x.source(3, 1), NONE);
        is.due("the DAY before", x.source(3, 0), 1);
    }

    private static void sourceOfForged() {
        is.part("'SOURCE of a SHEET not FORGED: of all others not FORGED'");
        TuneHouse x = ofOneYear(1, 3, 1);
        x.forge(0);
        is.due("a FORGED one is no SOURCE", x.source(2, 0), 1);
        is.due("nor are its CHANGES", x.changes(2, 0), 2);
        is.due("nor is it in DOUBT", x.doubt(2, 10000, 0), 0);
        is.due("SOURCE of a FORGED one", x.source(0, 0), NONE);
        is.due("CHANGES of a FORGED one", x.changes(0, 0), NONE);
        is.due("DOUBT of a FORGED one", x.doubt(0, 0, 0), NONE);
    }

    private static void sourceBelowAnew() {
        is.part("'if that is below ANEW; else none'");
        TuneHouse x = ofOneYear(1, 10);
        int[] anew = {0, 8, 9, 10, 10000};
        int[] due = {NONE, NONE, NONE, 0, 0};
        for (int i = 0; i < anew.length; i++) {
            x.price(4, anew[i]);
            is.due("9 with ANEW " + anew[i], x.source(1, 0), due[i]);
        }
        TuneHouse y = ofOneYear(1, 1);
        y.price(4, 0);
        is.due("0 with ANEW 0", y.source(1, 0), NONE);
        y.price(4, 1);
        is.due("0 with ANEW 1", y.source(1, 0), 0);
    }

    private static void changesOrAnew() {
        is.part("'Its CHANGES are that DISTANCE, or ANEW'");
        TuneHouse x = ofOneYear(1, 10);
        int[] anew = {0, 8, 9, 10, 10000};
        int[] due = {0, 8, 9, 9, 9};
        for (int i = 0; i < anew.length; i++) {
            x.price(4, anew[i]);
            is.due("9 with ANEW " + anew[i], x.changes(1, 0), due[i]);
            is.due("of the first, ANEW " + anew[i], x.changes(0, 0), anew[i]);
            is.due("of both, ANEW " + anew[i], x.all(0), anew[i] + due[i]);
        }
    }

    private static void doubtAtMost() {
        is.part("'a DISTANCE of at most that of the SOURCE and the margin'");
        TuneHouse x = ofOneYear(2, 2, 5, 9, 1);
        int[] margins = {0, 2, 3, 6, 7, 10000};
        int[] due = {1, 1, 2, 2, 3, 3};
        for (int i = 0; i < margins.length; i++) {
            is.due("margin " + margins[i], x.doubt(4, margins[i], 0), due[i]);
        }
    }

    private static void doubtOfFarOnes() {
        is.part("'how many other EARLIER ones', farther than ANEW");
        TuneHouse x = ofOneYear(3, 9, 1);
        x.price(4, 3);
        is.due("the SOURCE", x.source(2, 0), 0);
        is.due("one as far as ANEW and more", x.doubt(2, 6, 0), 1);
        is.due("a margin too small for it", x.doubt(2, 5, 0), 0);
    }

    private static void doubtOfOthers() {
        is.part("'other EARLIER ones'");
        TuneHouse x = ofOneYear(1, 1, 1, 1);
        is.due("of the second: not the SOURCE, itself, later ones", x.doubt(1, 10000, 0), 0);
        is.due("of the third", x.doubt(2, 0, 0), 1);
        is.due("of the last", x.doubt(3, 0, 0), 2);
        x.days(1);
        x.forge(2);
        is.due("without a FORGED one", x.doubt(3, 0, 1), 1);
        is.due("the DAY before", x.doubt(3, 0, 0), 2);
    }

    private static void doubtWithoutSource() {
        is.part("'(0 without a SOURCE)'");
        TuneHouse x = ofOneYear(5, 5, 5);
        is.due("none is EARLIER", x.doubt(0, 10000, 0), 0);
        is.due("with a SOURCE", x.doubt(2, 10000, 0), 1);
        x.price(4, 0);
        is.due("none is below ANEW", x.doubt(2, 10000, 0), 0);
    }

    private static void habitOfTheseHands() {
        is.part("'all pairs of SHEETS told as DOUBLES (of these two HANDS'");
        TuneHouse x = ofOneYear(1, 1, 1);
        is.due("alike, but not told", x.habit(0, 1, 0, 1), 0);
        x.doubles(2, 0);
        is.due("told of others", x.habit(0, 1, 0, 1), 0);
        is.due("told of one of both", x.habit(1, 2, 0, 1), 0);
        is.due("told of these", x.habit(0, 2, 0, 1), 1);
        x.doubles(0, 1);
        is.due("of these now", x.habit(1, 0, 0, 1), 1);
        is.due("HANDS without SHEETS", x.habit(4, 5, 0, 1), 0);
        is.due("the sum of none", x.habit(4, 5, 0, 0), 0);
    }

    private static void habitOfForged() {
        is.part("'neither FORGED'");
        for (int sheet = 0; sheet < 2; sheet++) {
            TuneHouse x = ofOneYear(1, 1);
            x.doubles(0, 1);
            x.days(1);
            x.forge(sheet);
            is.due("the DAY before, FORGED " + sheet, x.habit(0, 1, 0, 1), 1);
            is.due("FORGED " + sheet, x.habit(0, 1, 1, 1), 0);
            is.due("FORGED " + sheet + ", the other way", x.habit(1, 0, 1, 1), 0);
        }
    }

    private static void habitOfGaps() {
        is.part("'the COLUMNS of two NOTES that are no GAPS'");
        TuneHouse x = house(tune(20, 1, NONE, 0, 26, 1, NONE, 0), tune(20, 1, 22, 1, NONE, 0, NONE, 0, 50, 16),
            tune(), tune(NONE, 0));
        x.doubles(0, 1);
        x.doubles(0, 2);
        x.doubles(0, 3);
        x.doubles(2, 3);
        is.due("COLUMNS", x.habit(0, 1, 0, 1), 1);
        is.due("their sum", x.habit(0, 1, 0, 0), 0);
        is.due("COLUMNS, the other way", x.habit(1, 0, 0, 1), 1);
        is.due("against no NOTE", x.habit(0, 2, 0, 1), 0);
        is.due("against a GAP", x.habit(0, 3, 0, 1), 0);
        is.due("the sum against a GAP", x.habit(0, 3, 0, 0), 0);
        is.due("no NOTE against a GAP", x.habit(2, 3, 0, 0), 0);
    }

    private static void habitOfTheFirst() {
        is.part("'(t of the first HAND)'");
        TuneHouse x = house(tune(20, 1, 30, 1, 40, 1), tune(25, 1, 35, 1, 46, 1));
        x.doubles(1, 0);
        is.due("KEY 5, the last 1 lower", x.habit(0, 1, 0, 0), -1);
        is.due("KEY -5, the last 1 higher", x.habit(1, 0, 0, 0), 1);
        TuneHouse y = house(tune(20, 1, 20, 1), tune(32, 1, 8, 1));
        y.price(1, 1);
        y.price(3, 200);
        y.doubles(0, 1);
        // KEY -12 either way round: 20 - 12 - 32, and 32 - 12 - 20 with 8 - 12 - 20
        is.due("of two KEYS the one below", y.habit(0, 1, 0, 0), -24);
        is.due("the other way", y.habit(1, 0, 0, 0), -24);
    }

    private static void wordsOfAFamily() {
        is.part("'the WORDS of its SHEETS, as bits'");
        TuneHouse x = new TuneHouse();
        int[] words = {9, 0, 9, 4};
        for (int i = 0; i < words.length; i++) {
            x.sheet(0, 1900, words[i]);
        }
        x.note(3, 30, 1);
        is.due("two alike, one else", x.sung(0, 0, 0), 512 + 1);
        is.due("one alone", x.sung(3, 0, 0), 16);
        is.due("all", x.sung(3, 5, 0), 512 + 16 + 1);
        x.days(1);
        x.forge(1);
        is.due("without a FORGED one", x.sung(3, 5, 1), 512 + 16);
        x.forge(0);
        is.due("one of two alike is left", x.sung(3, 5, 1), 512 + 16);
    }

    private static void spanOfOne() {
        is.part("'the SPAN of WORDS: the least and greatest YEAR'");
        TuneHouse x = new TuneHouse();
        is.due("of none", x.span(3, 0, false), NONE);
        is.due("the greatest of none", x.span(3, 0, true), NONE);
        x.sheet(0, 0, 3);
        is.due("the least of one of the YEAR 0", x.span(3, 0, false), 0);
        is.due("the greatest of it", x.span(3, 0, true), 0);
        x.sheet(0, 7, 3);
        x.sheet(0, 5, 3);
        x.sheet(0, 3000, 4);
        is.due("the least of three", x.span(3, 0, false), 0);
        is.due("the greatest of three", x.span(3, 0, true), 7);
        is.due("other WORDS", x.span(4, 0, false), 3000);
    }

    private static void spanOfForged() {
        is.part("'of SHEETS not FORGED that have them'");
        TuneHouse x = new TuneHouse();
        for (int year : new int[] {10, 20, 30}) {
            x.sheet(0, year, 6);
        }
        x.days(1);
        x.forge(0);
        is.due("the least left", x.span(6, 1, false), 20);
        x.forge(2);
        is.due("the greatest left", x.span(6, 1, true), 20);
        x.forge(1);
        is.due("none left", x.span(6, 1, false), NONE);
        is.due("none left, the greatest", x.span(6, 1, true), NONE);
        is.due("the least the DAY before", x.span(6, 0, false), 10);
        is.due("the greatest the DAY before", x.span(6, 0, true), 30);
    }

    private static void noneIsBelow() {
        is.part("'NONE = -1'");
        is.due("NONE", TuneHouse.NONE, -1);
    }
}
