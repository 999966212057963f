/** Each line of the example in README.md answers as it says. */
public final class ReadmeTest {
    private static final Checks is = new Checks();

    public static void main(String[] args) {
        TuneHouse house = new TuneHouse();
        int first = house.sheet(0, 1800, 1);
        is.due("first", first, 0);
        is.due("note(first, 10, 2)", house.note(first, 10, 2), 1);
        is.due("note(first, 12, 2)", house.note(first, 12, 2), 2);
        int second = house.sheet(1, 1810, 2);
        is.due("second", second, 1);
        is.due("note(second, 15, 2)", house.note(second, 15, 2), 1);
        is.due("note(second, 17, 2)", house.note(second, 17, 2), 2);

        is.due("distance(first, second, 0)", house.distance(first, second, 0), 0);
        is.due("key(first, second, 0)", house.key(first, second, 0), 5);
        is.due("source(second, 0)", house.source(second, 0), 0);
        is.due("days(1)", house.days(1), 1);
        is.due("correct(second, 1, 18, 2)", house.correct(second, 1, 18, 2), true);
        is.due("distance(first, second, 1)", house.distance(first, second, 1), 2);
        is.due("distance(first, second, 0)", house.distance(first, second, 0), 0);
        is.due("kin(second, 2, 1)", house.kin(second, 2, 1), 2);
        is.due("sung(second, 2, 1)", house.sung(second, 2, 1), 6);
        is.due("doubles(first, second)", house.doubles(first, second), true);
        is.due("habit(0, 1, 1, 1)", house.habit(0, 1, 1, 1), 2);
        is.due("forge(first)", house.forge(first), true);
        is.due("source(second, 1)", house.source(second, 1), -1);
        is.due("source(second, 0)", house.source(second, 0), 0);
        is.end();
    }
}
