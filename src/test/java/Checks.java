/** Counts and prints the answers that are not the ones due. */
final class Checks {
    private int wrong;
    private int asked;
    private String part = "";

    void part(String name) {
        part = name;
    }

    void due(String call, long got, long want) {
        asked++;
        if (got != want) {
            wrong++;
            System.out.println(part + ": " + call + " answered " + got + ", due is " + want);
        }
    }

    void due(String call, boolean got, boolean want) {
        due(call, got ? 1 : 0, want ? 1 : 0);
    }

    /** Asks that the call of at throws NoSuchElementException. */
    void dueNoNote(TuneHouse x, int sheet, int i, int q, int what) {
        boolean threw = false;
        try {
            x.at(sheet, i, q, what);
        } catch (java.util.NoSuchElementException e) {
            threw = true;
        }
        due("at(" + sheet + ", " + i + ", " + q + ", " + what + ") throws", threw, true);
    }

    boolean isAnyWrong() {
        return wrong > 0;
    }

    void end() {
        System.out.println(asked + " answers asked, " + wrong + " not as due");
        if (wrong > 0) {
            System.exit(1);
        }
    }
}
