/** Each promise by itself: ordinary inputs, the edges that the document names, wrong inputs. */
public final class PromiseTest extends Houses {
    private static final Checks is = new Checks();

    public static void main(String[] args) {
        newObject();
        sheet();
        note();
        correct();
        correctTwoHundred();
        forge();
        doubles();
        doublesSixty();
        days();
        priceBounds();
        priceUse();
        at();
        distance();
        distanceOfGaps();
        distanceRefused();
        key();
        keyEdges();
        column();
        columnTies();
        columnsMost();
        family();
        familyForged();
        familyRefused();
        kinAndSung();
        source();
        sourceAnew();
        changesAndAll();
        doubt();
        habit();
        habitSorts();
        habitForged();
        span();
        count();
        firstAsked();
        refusalsChangeNothing();
        is.end();
    }

    private static void newObject() {
        is.part("promise 1");
        TuneHouse x = new TuneHouse();
        for (int what = 0; what <= 5; what++) {
            is.due("count(" + what + ")", x.count(what), 0);
        }
        is.due("NONE", TuneHouse.NONE, -1);
        is.due("all(0)", x.all(0), 0);
        is.due("all(1)", x.all(1), NONE);
        is.due("distance(0, 0, 0)", x.distance(0, 0, 0), NONE);
        is.due("span(0, 0, true)", x.span(0, 0, true), NONE);
        is.due("days(0)", x.days(0), 0);
    }

    private static void sheet() {
        is.part("promise 2");
        TuneHouse x = new TuneHouse();
        is.due("hand -1", x.sheet(-1, 0, 0), NONE);
        is.due("hand 6", x.sheet(6, 0, 0), NONE);
        is.due("year -1", x.sheet(0, -1, 0), NONE);
        is.due("year 3001", x.sheet(0, 3001, 0), NONE);
        is.due("words -1", x.sheet(0, 0, -1), NONE);
        is.due("words 10", x.sheet(0, 0, 10), NONE);
        is.due("far off", x.sheet(HIGH, LOW, HIGH), NONE);
        is.due("count(1)", x.count(1), 0);
        is.due("lowest", x.sheet(0, 0, 0), 0);
        is.due("highest", x.sheet(5, 3000, 9), 1);
        for (int i = 2; i < 20; i++) {
            is.due("sheet " + i, x.sheet(i % 6, i, i % 10), i);
        }
        is.due("the 21st", x.sheet(0, 0, 0), NONE);
        is.due("count(1)", x.count(1), 20);
        is.due("empty tune", x.distance(0, 1, 0), 0);
        is.dueNoNote(x, 0, 0, 0, 0);
    }

    private static void note() {
        is.part("promise 3");
        TuneHouse x = house(tune(), tune());
        is.due("sheet -1", x.note(-1, 0, 1), NONE);
        is.due("sheet 2", x.note(2, 0, 1), NONE);
        is.due("sheet MIN", x.note(LOW, 0, 1), NONE);
        is.due("pitch -2", x.note(0, -2, 1), NONE);
        is.due("pitch 61", x.note(0, 61, 1), NONE);
        is.due("beats 0", x.note(0, 0, 0), NONE);
        is.due("beats 17", x.note(0, 0, 17), NONE);
        is.due("beats MIN", x.note(0, 0, LOW), NONE);
        is.due("pitch MAX", x.note(0, HIGH, 1), NONE);
        is.due("count(3)", x.count(3), 0);
        is.due("lowest", x.note(0, 0, 1), 1);
        is.due("highest", x.note(0, 60, 16), 2);
        is.due("gap, beats 0", x.note(0, NONE, 0), 3);
        is.due("gap, beats 99", x.note(0, NONE, 99), 4);
        is.due("gap, beats MIN", x.note(0, NONE, LOW), 5);
        is.due("pitch of 1", x.at(0, 1, 0, 0), 60);
        is.due("beats of 1", x.at(0, 1, 0, 1), 16);
        is.due("pitch of a gap", x.at(0, 3, 0, 0), NONE);
        is.due("beats of a gap", x.at(0, 3, 0, 1), 0);
        for (int n = 6; n <= 24; n++) {
            is.due("note " + n, x.note(0, 30, 4), n);
        }
        is.due("the 25th", x.note(0, 30, 4), NONE);
        is.due("the 25th, a gap", x.note(0, NONE, 0), NONE);
        is.due("count(3)", x.count(3), 24);
        is.due("another sheet", x.note(1, 1, 1), 1);
        is.due("count(3)", x.count(3), 25);
    }

    private static void correct() {
        is.part("promise 4");
        TuneHouse x = house(tune(10, 1, NONE, 0));
        is.due("sheet -1", x.correct(-1, 0, 1, 1), false);
        is.due("sheet 1", x.correct(1, 0, 1, 1), false);
        is.due("note -1", x.correct(0, -1, 1, 1), false);
        is.due("note 2", x.correct(0, 2, 1, 1), false);
        is.due("note MAX", x.correct(0, HIGH, 1, 1), false);
        is.due("pitch 61", x.correct(0, 0, 61, 1), false);
        is.due("pitch -2", x.correct(0, 0, -2, 1), false);
        is.due("beats 0", x.correct(0, 0, 1, 0), false);
        is.due("beats 17", x.correct(0, 0, 1, 17), false);
        is.due("count(4)", x.count(4), 0);
        x.days(3);
        is.due("on day 3", x.correct(0, 0, 20, 2), true);
        is.due("again on day 3", x.correct(0, 0, 21, 3), true);
        x.days(2);
        is.due("a gap on day 5", x.correct(0, 0, NONE, 7), true);
        is.due("a note for a gap", x.correct(0, 1, 60, 16), true);
        x.days(1);
        is.due("back on day 6", x.correct(0, 0, 0, 1), true);
        is.due("pitch on day 0", x.at(0, 0, 0, 0), 10);
        is.due("pitch on day 2", x.at(0, 0, 2, 0), 10);
        is.due("pitch on day 3", x.at(0, 0, 3, 0), 21);
        is.due("beats on day 3", x.at(0, 0, 3, 1), 3);
        is.due("pitch on day 4", x.at(0, 0, 4, 0), 21);
        is.due("pitch on day 5", x.at(0, 0, 5, 0), NONE);
        is.due("beats on day 5", x.at(0, 0, 5, 1), 0);
        is.due("pitch on day 6", x.at(0, 0, 6, 0), 0);
        is.due("other note on day 4", x.at(0, 1, 4, 0), NONE);
        is.due("other note on day 5", x.at(0, 1, 5, 1), 16);
        is.due("pitch on day 0 still", x.at(0, 0, 0, 0), 10);
        is.due("a note told later", x.note(0, 33, 3), 3);
        is.due("is known on day 0", x.at(0, 2, 0, 0), 33);
        is.due("count(4)", x.count(4), 5);
    }

    private static void correctTwoHundred() {
        is.part("promise 4, the most");
        TuneHouse x = house(tune(10, 1), tune(10, 1));
        for (int i = 0; i < 200; i++) {
            is.due("correction " + i, x.correct(i % 2, 0, i % 61, 1), true);
            if (i % 10 == 9) {
                x.days(1);
            }
        }
        is.due("the 201st", x.correct(0, 0, 5, 5), false);
        is.due("count(4)", x.count(4), 200);
        is.due("day 0, sheet 0", x.at(0, 0, 0, 0), 8);
        is.due("day 0, sheet 1", x.at(1, 0, 0, 0), 9);
        is.due("day 7, sheet 1", x.at(1, 0, 7, 0), 79 - 61);
        is.due("day 20, sheet 0", x.at(0, 0, 20, 0), 198 - 183);
        is.due("distance, day 3", x.distance(0, 1, 3), 0);
        is.due("key, day 3", x.key(0, 1, 3), 1);
    }

    private static void forge() {
        is.part("promise 5");
        TuneHouse x = house(tune(1, 1), tune(1, 1));
        is.due("sheet -1", x.forge(-1), false);
        is.due("sheet 2", x.forge(2), false);
        is.due("sheet MAX", x.forge(HIGH), false);
        x.days(4);
        is.due("forge(0)", x.forge(0), true);
        is.due("again", x.forge(0), false);
        x.days(1);
        is.due("a day later", x.forge(0), false);
        is.due("count(2)", x.count(2), 1);
        is.due("source on day 3", x.source(1, 3), 0);
        is.due("source on day 4", x.source(1, 4), NONE);
        is.due("source on day 5", x.source(1, 5), NONE);
        is.due("family on day 3", x.family(0, 0, 3), 0);
        is.due("family on day 4", x.family(0, 0, 4), NONE);
    }

    private static void doubles() {
        is.part("promise 6");
        TuneHouse x = house(tune(), tune(), tune());
        x.sheet(0, 5, 5);
        is.due("no sheet -1", x.doubles(-1, 0), false);
        is.due("no sheet 4", x.doubles(0, 4), false);
        is.due("no sheets far off", x.doubles(LOW, HIGH), false);
        is.due("one sheet", x.doubles(1, 1), false);
        is.due("one hand", x.doubles(0, 3), false);
        is.due("0, 1", x.doubles(0, 1), true);
        is.due("0, 1 again", x.doubles(0, 1), false);
        is.due("1, 0", x.doubles(1, 0), false);
        is.due("0, 2", x.doubles(0, 2), true);
        is.due("2, 1", x.doubles(2, 1), true);
        is.due("1, 2", x.doubles(1, 2), false);
        is.due("3, 1", x.doubles(3, 1), true);
        x.forge(2);
        is.due("a forged one", x.doubles(3, 2), true);
        is.due("count(5)", x.count(5), 5);
    }

    private static void doublesSixty() {
        is.part("promise 6, the most");
        TuneHouse x = new TuneHouse();
        for (int i = 0; i < 20; i++) {
            x.sheet(i % 2, i, 0);
        }
        for (int i = 0; i < 60; i++) {
            is.due("double " + i, x.doubles(2 * (i / 10), 2 * (i % 10) + 1), true);
        }
        is.due("the 61st", x.doubles(18, 19), false);
        is.due("count(5)", x.count(5), 60);
    }

    private static void days() {
        is.part("promise 7");
        TuneHouse x = new TuneHouse();
        is.due("days(-1)", x.days(-1), NONE);
        is.due("days(1001)", x.days(1001), NONE);
        is.due("days(MAX)", x.days(HIGH), NONE);
        is.due("days(MIN)", x.days(LOW), NONE);
        is.due("days(0)", x.days(0), 0);
        is.due("days(999)", x.days(999), 999);
        is.due("days(2)", x.days(2), NONE);
        is.due("days(MAX) late", x.days(HIGH), NONE);
        is.due("days(1)", x.days(1), 1000);
        is.due("days(1) at the end", x.days(1), NONE);
        is.due("days(0) at the end", x.days(0), 1000);
        is.due("all(1000)", x.all(1000), 0);
        is.due("days(1000) at once", new TuneHouse().days(1000), 1000);
    }

    private static void priceBounds() {
        is.part("promise 8, bounds");
        int[] tops = {20, 200, 20, 200, 10000};
        TuneHouse x = new TuneHouse();
        for (int which = 0; which < tops.length; which++) {
            is.due(which + " of -1", x.price(which, -1), false);
            is.due(which + " of MIN", x.price(which, LOW), false);
            is.due(which + " above", x.price(which, tops[which] + 1), false);
            is.due(which + " of MAX", x.price(which, HIGH), false);
            is.due(which + " of 0", x.price(which, 0), true);
            is.due(which + " of the top", x.price(which, tops[which]), true);
        }
        is.due("which -1", x.price(-1, 0), false);
        is.due("which 5", x.price(5, 0), false);
        is.due("which MAX", x.price(HIGH, 0), false);
        is.due("which MIN", x.price(LOW, 0), false);
    }

    private static void priceUse() {
        is.part("promise 8, use");
        TuneHouse x = house(tune(10, 4, 20, 4, 30, 4), tune(10, 9, 21, 4, 30, 4));
        is.due("at first", x.distance(0, 1, 0), 5 + 2);
        is.due("BEAT 2", x.price(2, 2), true);
        is.due("two beside one alone each", x.distance(0, 1, 0), 10 + 2);
        x.price(0, 3);
        is.due("STEP 3", x.distance(0, 1, 0), 10 + 3);
        x.price(1, 2);
        is.due("MOST 2", x.distance(0, 1, 0), 10 + 2);
        x.price(3, 4);
        is.due("OUT 4", x.distance(0, 1, 0), 8 + 2);
        x.price(3, 0);
        is.due("OUT 0", x.distance(0, 1, 0), 0);
        is.due("changes by ANEW", x.changes(0, 0), 30);
        x.price(4, 7);
        is.due("changes by ANEW 7", x.changes(0, 0), 7);
        x.price(3, 4);
        x.days(1);
        x.price(3, 200);
        is.due("prices hold at any time, day 0", x.distance(0, 1, 0), 10 + 2);
        is.due("prices hold at any time, day 1", x.distance(0, 1, 1), 10 + 2);
    }

    private static void at() {
        is.part("promise 9");
        TuneHouse x = house(tune(10, 3, NONE, 5), tune());
        is.due("pitch", x.at(0, 0, 0, 0), 10);
        is.due("beats", x.at(0, 0, 0, 1), 3);
        is.due("pitch of a gap", x.at(0, 1, 0, 0), NONE);
        is.due("beats of a gap", x.at(0, 1, 0, 1), 0);
        is.dueNoNote(x, -1, 0, 0, 0);
        is.dueNoNote(x, 2, 0, 0, 0);
        is.dueNoNote(x, HIGH, 0, 0, 0);
        is.dueNoNote(x, 1, 0, 0, 0);
        is.dueNoNote(x, 0, -1, 0, 0);
        is.dueNoNote(x, 0, 2, 0, 0);
        is.dueNoNote(x, 0, LOW, 0, 0);
        is.dueNoNote(x, 0, 0, -1, 0);
        is.dueNoNote(x, 0, 0, 1, 0);
        is.dueNoNote(x, 0, 0, 0, -1);
        is.dueNoNote(x, 0, 0, 0, 2);
        is.dueNoNote(x, 0, 0, 0, HIGH);
        x.days(1);
        is.due("beats on day 1", x.at(0, 0, 1, 1), 3);
        x.forge(0);
        is.due("of a forged one", x.at(0, 0, 1, 0), 10);
    }

    private static void distance() {
        is.part("promise 10");
        TuneHouse x = house(tune(10, 2, 12, 2, 14, 4), tune(15, 2, 17, 2, 19, 4),
            tune(22, 2, 24, 2, 26, 4), tune(23, 2, 25, 2, 27, 4), tune(), tune(60, 16));
        is.due("itself", x.distance(0, 0, 0), 0);
        is.due("5 higher", x.distance(0, 1, 0), 0);
        is.due("12 higher", x.distance(0, 2, 0), 0);
        is.due("12 lower", x.distance(2, 0, 0), 0);
        is.due("13 higher", x.distance(0, 3, 0), 6);
        is.due("13 lower", x.distance(3, 0, 0), 6);
        is.due("against none", x.distance(0, 4, 0), 15);
        is.due("none against it", x.distance(4, 0, 0), 15);
        is.due("none against none", x.distance(4, 4, 0), 0);
        // one pair at most 8 + 12 and two alone 10, or all alone 20
        is.due("all alone", x.distance(0, 5, 0), 20);
        x.price(3, 200);
        is.due("capped by MOST", x.distance(0, 5, 0), 8 + 12 + 400);
    }

    private static void distanceOfGaps() {
        is.part("promise 10, gaps");
        TuneHouse x = house(tune(NONE, 0, NONE, 0), tune(10, 1, 20, 16), tune(NONE, 0), tune());
        is.due("gaps cost nothing against notes", x.distance(0, 1, 0), 0);
        is.due("one gap, two notes", x.distance(2, 1, 0), 5);
        is.due("gaps against gaps", x.distance(0, 2, 0), 0);
        is.due("gaps alone", x.distance(0, 3, 0), 0);
        x.forge(0);
        is.due("a forged one has a distance", x.distance(0, 1, 0), 0);
    }

    private static void distanceRefused() {
        is.part("promise 10, refused");
        TuneHouse x = house(tune(1, 1), tune(2, 2));
        int[][] wrong = {{-1, 0, 0}, {0, -1, 0}, {2, 0, 0}, {0, 2, 0}, {0, 1, -1}, {0, 1, 1},
            {LOW, 0, 0}, {0, HIGH, 0}, {0, 1, LOW}, {0, 1, HIGH}};
        for (int[] w : wrong) {
            String of = "(" + w[0] + ", " + w[1] + ", " + w[2] + ")";
            is.due("distance" + of, x.distance(w[0], w[1], w[2]), NONE);
            is.due("key" + of, x.key(w[0], w[1], w[2]), 100);
            is.due("column" + of, x.column(w[0], w[1], w[2], 0, 0), NONE);
        }
        x.days(1);
        is.due("on day 1", x.distance(0, 1, 1), 1);
    }

    private static void key() {
        is.part("promise 11");
        TuneHouse x = house(tune(20, 2, 22, 2), tune(25, 2, 27, 2), tune(32, 2, 34, 2),
            tune(40, 2, 42, 2), tune(), tune(NONE, 0));
        is.due("the same", x.key(0, 0, 0), 0);
        is.due("5 up", x.key(0, 1, 0), 5);
        is.due("5 down", x.key(1, 0, 0), -5);
        is.due("12 up", x.key(0, 2, 0), 12);
        is.due("12 down", x.key(2, 0, 0), -12);
        // at KEY 12 still 8 off each, so that MOST caps all keys alike
        is.due("too far up", x.key(0, 3, 0), 0);
        is.due("none", x.key(0, 4, 0), 0);
        is.due("gaps", x.key(5, 0, 0), 0);
    }

    private static void keyEdges() {
        is.part("promise 11, ties");
        TuneHouse x = house(tune(20, 2, 20, 2), tune(21, 2, 19, 2), tune(21, 2, 22, 2), tune(19, 2, 18, 2));
        // with -1, 0 and 1 two steps in all
        is.due("nearest to 0", x.key(0, 1, 0), 0);
        is.due("1 or 2", x.key(0, 2, 0), 1);
        is.due("-1 or -2", x.key(0, 3, 0), -1);
        x.price(1, 1);
        x.price(3, 200);
        // MOST 1: one of both meets with -1 and with 1
        is.due("of two the one below", x.key(0, 1, 0), -1);
        is.due("either way round", x.key(1, 0, 0), -1);
        is.due("distance", x.distance(0, 1, 0), 1);
    }

    private static void column() {
        is.part("promise 12");
        TuneHouse x = house(tune(10, 2, 12, 2, 14, 4), tune(10, 2, 14, 1), tune());
        int[][] rows = {{0, 0, 0}, {1, NONE, 5}, {2, 1, 3}};
        is.dueColumns(x, 0, 1, rows);
        is.dueColumns(x, 1, 0, new int[][] {{0, 0, 0}, {NONE, 1, 5}, {1, 2, 3}});
        is.dueColumns(x, 0, 2, new int[][] {{0, NONE, 5}, {1, NONE, 5}, {2, NONE, 5}});
        is.dueColumns(x, 2, 1, new int[][] {{NONE, 0, 5}, {NONE, 1, 5}});
        is.dueColumns(x, 2, 2, new int[][] {});
        is.due("what -1", x.column(0, 1, 0, 0, -1), NONE);
        is.due("what 3", x.column(0, 1, 0, 0, 3), NONE);
        is.due("what MAX", x.column(0, 1, 0, 0, HIGH), NONE);
        is.due("column -1", x.column(0, 1, 0, -1, 2), NONE);
        is.due("column MIN", x.column(0, 1, 0, LOW, 2), NONE);
        is.due("column MAX", x.column(0, 1, 0, HIGH, 2), NONE);
        x.days(1);
        x.correct(0, 1, NONE, 0);
        is.due("price of a gap, day 1", x.column(0, 1, 1, 1, 2), 0);
        is.due("price of it, day 0", x.column(0, 1, 0, 1, 2), 5);
    }

    private static void columnTies() {
        is.part("promise 12, ties");
        TuneHouse x = house(tune(10, 1, 10, 1), tune(10, 1), tune(NONE, 0, NONE, 0), tune(30, 1), tune(10, 1, 30, 16));
        // the last of both meet, though the first could as well
        is.dueColumns(x, 0, 1, new int[][] {{0, NONE, 5}, {1, 0, 0}});
        is.dueColumns(x, 1, 0, new int[][] {{NONE, 0, 5}, {0, 1, 0}});
        is.dueColumns(x, 2, 2, new int[][] {{0, 0, 0}, {1, 1, 0}});
        is.dueColumns(x, 2, 0, new int[][] {{0, 0, 0}, {1, 1, 0}});
        // 8 together, 4 alone: t's own NOTE is the last one
        x.price(3, 2);
        is.dueColumns(x, 1, 3, new int[][] {{NONE, 0, 2}, {0, NONE, 2}});
        is.dueColumns(x, 3, 1, new int[][] {{NONE, 0, 2}, {0, NONE, 2}});
        // 4 each alone is as dear as 8 together: two are taken
        x.price(3, 4);
        is.dueColumns(x, 1, 3, new int[][] {{0, 0, 8}});
        is.dueColumns(x, 4, 1, new int[][] {{0, 0, 0}, {1, NONE, 4}});
    }

    private static void columnsMost() {
        is.part("promise 12, the most");
        TuneHouse x = house(tune(), tune());
        x.price(3, 0);
        for (int i = 0; i < 24; i++) {
            x.note(0, 0, 1);
            x.note(1, 60, 16);
        }
        is.due("distance", x.distance(0, 1, 0), 0);
        is.due("column 0", x.column(0, 1, 0, 0, 1), 0);
        is.due("column 23", x.column(0, 1, 0, 23, 1), 23);
        is.due("column 24", x.column(0, 1, 0, 24, 0), 0);
        is.due("column 47", x.column(0, 1, 0, 47, 0), 23);
        is.due("column 48", x.column(0, 1, 0, 48, 2), NONE);
        x.price(3, 200);
        x.price(1, 200);
        x.price(0, 20);
        x.price(2, 20);
        is.due("the dearest", x.distance(0, 1, 0), 24 * 400);
        is.due("the dearest two", x.column(0, 1, 0, 23, 2), 200);
    }

    /** Four tunes in a chain, each 2 from the next one; a fifth far off. */
    private static TuneHouse chain() {
        return house(tune(10, 1, 30, 1), tune(10, 3, 30, 1), tune(10, 5, 30, 1), tune(10, 7, 30, 1),
            tune(10, 1, 10, 1, 10, 1, 10, 1, 10, 1, 10, 1, 10, 1));
    }

    private static void family() {
        is.part("promise 13");
        TuneHouse x = chain();
        for (int i = 0; i < 4; i++) {
            is.due("bar 2 of " + i, x.family(i, 2, 0), 0);
            is.due("bar 1 of " + i, x.family(i, 1, 0), i);
        }
        is.due("far off", x.family(4, 2, 0), 4);
        is.due("bar 10000", x.family(4, 10000, 0), 0);
        TuneHouse y = house(tune(10, 1, 30, 1), tune(10, 7, 30, 1), tune(10, 5, 30, 1), tune(10, 3, 30, 1));
        is.due("linked by higher ones", y.family(1, 2, 0), 0);
        is.due("kin by higher ones", y.kin(1, 2, 0), 4);
        y.days(1);
        y.correct(3, 0, 10, 16);
        is.due("corrected, day 1", y.family(1, 2, 1), 1);
        is.due("kin, day 1", y.kin(1, 2, 1), 2);
        is.due("corrected, day 0", y.family(1, 2, 0), 0);
    }

    private static void familyForged() {
        is.part("promise 13, forged");
        TuneHouse x = chain();
        x.days(2);
        x.forge(1);
        is.due("no way through a forged one", x.family(2, 2, 2), 2);
        is.due("the lower side", x.family(0, 2, 2), 0);
        is.due("of the forged one", x.family(1, 2, 2), NONE);
        is.due("of the forged one before", x.family(1, 2, 1), 0);
        is.due("kin before", x.kin(2, 2, 1), 4);
        is.due("kin after", x.kin(2, 2, 2), 2);
        is.due("kin of a single one", x.kin(0, 2, 2), 1);
        is.due("sung after", x.sung(2, 2, 2), 4 + 8);
        is.due("kin of the forged one", x.kin(1, 2, 2), NONE);
        is.due("sung of the forged one", x.sung(1, 2, 2), NONE);
    }

    private static void familyRefused() {
        is.part("promises 13 to 15, refused");
        TuneHouse x = chain();
        int[][] wrong = {{-1, 0, 0}, {5, 0, 0}, {0, -1, 0}, {0, 10001, 0}, {0, 0, -1}, {0, 0, 1},
            {LOW, 0, 0}, {HIGH, 0, 0}, {0, HIGH, 0}, {0, LOW, 0}, {0, 0, HIGH}, {0, 0, LOW}};
        for (int[] w : wrong) {
            String of = "(" + w[0] + ", " + w[1] + ", " + w[2] + ")";
            is.due("family" + of, x.family(w[0], w[1], w[2]), NONE);
            is.due("kin" + of, x.kin(w[0], w[1], w[2]), NONE);
            is.due("sung" + of, x.sung(w[0], w[1], w[2]), NONE);
        }
    }

    private static void kinAndSung() {
        is.part("promises 14 and 15");
        TuneHouse x = chain();
        is.due("kin(0, 1, 0)", x.kin(0, 1, 0), 1);
        is.due("kin(0, 2, 0)", x.kin(0, 2, 0), 4);
        is.due("kin(3, 2, 0)", x.kin(3, 2, 0), 4);
        is.due("kin(4, 2, 0)", x.kin(4, 2, 0), 1);
        is.due("kin(4, 10000, 0)", x.kin(4, 10000, 0), 5);
        is.due("sung(3, 1, 0)", x.sung(3, 1, 0), 8);
        is.due("sung(3, 2, 0)", x.sung(3, 2, 0), 15);
        is.due("sung(4, 2, 0)", x.sung(4, 2, 0), 16);
        TuneHouse y = new TuneHouse();
        for (int i = 0; i < 20; i++) {
            y.sheet(0, 20 - i, 9);
        }
        is.due("twenty empty ones", y.kin(19, 0, 0), 20);
        is.due("their lowest", y.family(19, 0, 0), 0);
        is.due("one bit for all", y.sung(19, 0, 0), 512);
    }

    private static void source() {
        is.part("promise 16");
        TuneHouse x = new TuneHouse();
        int[] years = {1900, 1800, 1800, 1700, 1900};
        int[] beats = {3, 1, 5, 9, 3};
        for (int i = 0; i < years.length; i++) {
            x.sheet(i, years[i], 0);
            x.note(i, 30, beats[i]);
        }
        is.due("the first one", x.source(3, 0), NONE);
        // 1 and 3 are both 4 off: the lower year
        is.due("the earlier of two as near", x.source(2, 0), 3);
        is.due("only the year before", x.source(1, 0), 3);
        // 1 and 2 are both 2 off: the lower number of one year
        is.due("of several the earliest", x.source(0, 0), 1);
        is.due("same year and tune", x.source(4, 0), 0);
        x.days(1);
        x.forge(1);
        is.due("the next one then", x.source(0, 1), 2);
        is.due("as before", x.source(0, 0), 1);
        is.due("of a forged one", x.source(1, 1), NONE);
        is.due("of it before", x.source(1, 0), 3);
        x.correct(3, 0, 30, 1);
        is.due("an earlier year as near", x.source(0, 1), 3);
        is.due("sheet -1", x.source(-1, 0), NONE);
        is.due("sheet 5", x.source(5, 0), NONE);
        is.due("q -1", x.source(0, -1), NONE);
        is.due("q 2", x.source(0, 2), NONE);
        is.due("far off", x.source(HIGH, LOW), NONE);
    }

    private static void sourceAnew() {
        is.part("promise 16, ANEW");
        TuneHouse x = house(tune(10, 1, 10, 1, 10, 1, 10, 1, 10, 1, 10, 1), tune());
        is.due("30 is not below 30", x.source(1, 0), NONE);
        is.due("its changes", x.changes(1, 0), 30);
        x.price(4, 31);
        is.due("30 is below 31", x.source(1, 0), 0);
        is.due("its changes", x.changes(1, 0), 30);
        x.price(4, 0);
        is.due("nothing is below 0", x.source(1, 0), NONE);
        is.due("its changes", x.changes(1, 0), 0);
        is.due("doubt", x.doubt(1, 10000, 0), 0);
    }

    private static void changesAndAll() {
        is.part("promises 17 and 18");
        TuneHouse x = chain();
        is.due("of the first", x.changes(0, 0), 30);
        is.due("of the next", x.changes(1, 0), 2);
        // 33 from the nearest
        is.due("of the last", x.changes(4, 0), 30);
        is.due("all", x.all(0), 30 + 2 + 2 + 2 + 30);
        x.days(3);
        x.forge(1);
        is.due("of a forged one", x.changes(1, 3), NONE);
        is.due("past a forged one", x.changes(2, 3), 4);
        is.due("all then", x.all(3), 30 + 4 + 2 + 30);
        is.due("all before", x.all(2), 66);
        is.due("changes of sheet -1", x.changes(-1, 0), NONE);
        is.due("changes of sheet 5", x.changes(5, 0), NONE);
        is.due("changes, q -1", x.changes(0, -1), NONE);
        is.due("changes, q 4", x.changes(0, 4), NONE);
        is.due("all(-1)", x.all(-1), NONE);
        is.due("all(4)", x.all(4), NONE);
        is.due("all(MAX)", x.all(HIGH), NONE);
        is.due("all(MIN)", x.all(LOW), NONE);
    }

    private static void doubt() {
        is.part("promise 19");
        TuneHouse x = chain();
        is.due("0 without a source", x.doubt(0, 10000, 0), 0);
        is.due("none but the source", x.doubt(1, 10000, 0), 0);
        // sheet 3 has 2, 4 and 6 to the others
        is.due("margin 0", x.doubt(3, 0, 0), 0);
        is.due("margin 1", x.doubt(3, 1, 0), 0);
        is.due("margin 2", x.doubt(3, 2, 0), 1);
        is.due("margin 4", x.doubt(3, 4, 0), 2);
        is.due("margin 10000", x.doubt(3, 10000, 0), 2);
        x.days(1);
        x.forge(1);
        is.due("a forged one is none", x.doubt(3, 4, 1), 1);
        is.due("before", x.doubt(3, 4, 0), 2);
        is.due("of a forged one", x.doubt(1, 0, 1), NONE);
        is.due("margin -1", x.doubt(3, -1, 0), NONE);
        is.due("margin 10001", x.doubt(3, 10001, 0), NONE);
        is.due("margin MAX", x.doubt(3, HIGH, 0), NONE);
        is.due("margin -1 without a source", x.doubt(0, -1, 0), NONE);
        is.due("sheet -1", x.doubt(-1, 0, 0), NONE);
        is.due("sheet 5", x.doubt(5, 0, 0), NONE);
        is.due("q -1", x.doubt(3, 0, -1), NONE);
        is.due("q 2", x.doubt(3, 0, 2), NONE);
        TuneHouse y = house(tune(5, 1), tune(5, 1), tune(5, 1), tune(5, 1));
        is.due("as near ones, margin 0", y.doubt(2, 0, 0), 1);
        is.due("later ones do not count", y.doubt(1, 0, 0), 0);
    }

    private static void habit() {
        is.part("promise 20");
        TuneHouse x = house(tune(10, 2, 12, 2, 14, 4), tune(15, 2, 18, 2, 19, 4), tune(10, 2, 13, 2, 14, 4));
        is.due("no doubles: the sum", x.habit(0, 1, 0, 0), 0);
        is.due("no doubles: how many", x.habit(0, 1, 0, 1), 0);
        x.doubles(1, 0);
        is.due("0 against 1", x.habit(0, 1, 0, 0), -1);
        is.due("1 against 0", x.habit(1, 0, 0, 0), 1);
        is.due("how many", x.habit(0, 1, 0, 1), 3);
        x.doubles(0, 2);
        is.due("other hands apart", x.habit(0, 1, 0, 1), 3);
        is.due("of these", x.habit(0, 2, 0, 0), -1);
        is.due("1 against 2", x.habit(1, 2, 0, 1), 0);
        x.sheet(1, 1500, 3);
        addNotes(x, 3, tune(10, 2, 16, 2, 14, 4));
        x.doubles(0, 3);
        is.due("two pairs", x.habit(0, 1, 0, 0), -1 - 4);
        is.due("how many of both", x.habit(0, 1, 0, 1), 6);
        int[][] wrong = {{-1, 0, 0, 0}, {6, 0, 0, 0}, {0, -1, 0, 0}, {0, 6, 0, 0}, {1, 1, 0, 0},
            {0, 1, -1, 0}, {0, 1, 1, 0}, {0, 1, 0, -1}, {0, 1, 0, 2}, {LOW, HIGH, 0, 0}, {0, 1, HIGH, HIGH}};
        for (int[] w : wrong) {
            String call = "habit(" + w[0] + ", " + w[1] + ", " + w[2] + ", " + w[3] + ")";
            is.due(call, x.habit(w[0], w[1], w[2], w[3]), -1000000);
        }
        is.due("hands without sheets", x.habit(4, 5, 0, 1), 0);
    }

    private static void habitSorts() {
        is.part("promise 20, columns that count");
        // a GAP each, and one alone
        TuneHouse x = house(tune(20, 1, NONE, 0, 24, 1, 40, 1), tune(20, 1, 22, 1, NONE, 0, 41, 1, 30, 16));
        x.doubles(0, 1);
        is.due("distance", x.distance(0, 1, 0), 2 + 5);
        is.due("how many", x.habit(0, 1, 0, 1), 2);
        is.due("the sum", x.habit(0, 1, 0, 0), -1);
        is.due("the sum the other way", x.habit(1, 0, 0, 0), 1);
    }

    private static void habitForged() {
        is.part("promise 20, days");
        TuneHouse x = house(tune(20, 1, 30, 1, 40, 1), tune(20, 1, 30, 1, 40, 1));
        x.days(1);
        x.doubles(0, 1);
        is.due("known at all times", x.habit(0, 1, 0, 1), 3);
        x.days(1);
        x.correct(0, 1, 31, 1);
        is.due("corrected, day 2", x.habit(0, 1, 2, 0), 1);
        is.due("corrected, day 1", x.habit(0, 1, 1, 0), 0);
        x.days(1);
        x.forge(1);
        is.due("forged, day 3", x.habit(0, 1, 3, 1), 0);
        is.due("the other way, day 3", x.habit(1, 0, 3, 1), 0);
        is.due("forged, day 2", x.habit(0, 1, 2, 1), 3);
    }

    private static void span() {
        is.part("promise 21");
        TuneHouse x = new TuneHouse();
        int[] years = {1800, 0, 3000, 1500};
        int[] words = {4, 4, 4, 9};
        for (int i = 0; i < years.length; i++) {
            x.sheet(0, years[i], words[i]);
        }
        is.due("least of 4", x.span(4, 0, false), 0);
        is.due("greatest of 4", x.span(4, 0, true), 3000);
        is.due("least of 9", x.span(9, 0, false), 1500);
        is.due("greatest of 9", x.span(9, 0, true), 1500);
        is.due("words of none", x.span(5, 0, true), NONE);
        x.days(1);
        x.forge(1);
        x.forge(3);
        is.due("least of 4, day 1", x.span(4, 1, false), 1800);
        is.due("least of 4, day 0", x.span(4, 0, false), 0);
        is.due("only forged ones", x.span(9, 1, false), NONE);
        is.due("words -1", x.span(-1, 0, false), NONE);
        is.due("words 10", x.span(10, 0, true), NONE);
        is.due("words MAX", x.span(HIGH, 0, true), NONE);
        is.due("q -1", x.span(4, -1, false), NONE);
        is.due("q 2", x.span(4, 2, true), NONE);
        is.due("q MIN", x.span(4, LOW, true), NONE);
    }

    private static void count() {
        is.part("promise 22");
        TuneHouse x = house(tune(1, 1, NONE, 0), tune(2, 2), tune());
        x.days(7);
        x.forge(0);
        x.forge(2);
        x.correct(1, 0, 3, 3);
        x.correct(1, 0, 3, 3);
        x.correct(0, 1, 3, 3);
        x.correct(0, 1, 3, 3);
        x.doubles(0, 1);
        int[] due = {7, 3, 2, 3, 4, 1};
        for (int what = 0; what < due.length; what++) {
            is.due("count(" + what + ")", x.count(what), due[what]);
        }
        is.due("count(-1)", x.count(-1), NONE);
        is.due("count(6)", x.count(6), NONE);
        is.due("count(MAX)", x.count(HIGH), NONE);
        is.due("count(MIN)", x.count(LOW), NONE);
    }

    /** Two tunes alike on day 0, 3 apart on day 1, with nothing asked yet. */
    private static TuneHouse corrected() {
        TuneHouse x = house(tune(20, 1, 30, 1, 40, 1), tune(20, 1, 30, 1, 40, 1), tune(20, 1, 30, 1, 40, 5));
        x.doubles(0, 1);
        x.days(1);
        x.correct(1, 2, 41, 2);
        return x;
    }

    private static void firstAsked() {
        is.part("each question as the first one");
        is.due("at", corrected().at(1, 2, 1, 0), 41);
        is.due("distance", corrected().distance(0, 1, 1), 3);
        is.due("key", corrected().key(1, 0, 1), 0);
        is.due("column", corrected().column(0, 1, 1, 2, 2), 3);
        is.due("family", corrected().family(1, 2, 1), 1);
        is.due("kin", corrected().kin(1, 2, 1), 1);
        is.due("sung", corrected().sung(1, 2, 1), 2);
        is.due("source", corrected().source(2, 1), 0);
        is.due("changes", corrected().changes(1, 1), 3);
        is.due("all", corrected().all(1), 30 + 3 + 4);
        // sheet 2 is 4 from sheet 0 and 5 from sheet 1
        is.due("doubt", corrected().doubt(2, 0, 1), 0);
        is.due("doubt with a margin", corrected().doubt(2, 1, 1), 1);
        is.due("habit in the last column", corrected().habit(0, 1, 1, 0), -1);
        is.due("habit, how many", corrected().habit(0, 1, 1, 1), 3);
    }

    private static void refusalsChangeNothing() {
        is.part("what is refused changes nothing");
        TuneHouse x = house(tune(1, 1, 5, 2), tune(2, 2, 7, 7));
        x.price(0, 3);
        int before = x.distance(0, 1, 0);
        x.sheet(9, 0, 0);
        x.note(0, 61, 1);
        x.correct(0, 0, 61, 1);
        x.correct(0, 5, 6, 1);
        x.forge(2);
        x.doubles(0, 0);
        x.days(-3);
        x.price(0, 21);
        x.price(9, 1);
        is.due("distance", x.distance(0, 1, 0), before);
        int[] due = {0, 2, 0, 4, 0, 0};
        for (int what = 0; what < due.length; what++) {
            is.due("count(" + what + ")", x.count(what), due[what]);
        }
    }
}
