/** Counts and prints the answers that are not the ones due. */
final class Checks {
    private int wrong;
    private int asked;
    private String part = "";

    void part(String name) {
        part = name;
    }

    void due(String call, long got, long want) {
        asked++;
        if (got != want) {
            wrong++;
            System.out.println(part + ": " + call + " answered " + got + ", due is " + want);
        }
    }

    void due(String call, boolean got, boolean want) {
        due(call, got ? 1 : 0, want ? 1 : 0);
    }

    /** Asks that the call of at throws NoSuchElementException. */
    void dueNoNote(TuneHouse x, int sheet, int i, int q, int what) {
        boolean threw = false;
        try {
            x.at(sheet, i, q, what);
        } catch (java.util.NoSuchElementException e) {
            threw = true;
        }
        due("at(" + sheet + ", " + i + ", " + q + ", " + what + ") throws", threw, true);
    }

    /** Asks for each COLUMN on DAY 0, all three of its numbers, and that there are no more. */
    void dueColumns(TuneHouse x, int one, int other, int[][] rows) {
        String of = "column(" + one + ", " + other + ", 0, ";
        for (int i = 0; i < rows.length; i++) {
            for (int what = 0; what < 3; what++) {
                due(of + i + ", " + what + ")", x.column(one, other, 0, i, what), rows[i][what]);
            }
        }
        due(of + rows.length + ", 2)", x.column(one, other, 0, rows.length, 2), TuneHouse.NONE);
    }

    int asked() {
        return asked;
    }

    boolean isAnyWrong() {
        return wrong > 0;
    }

    void end() {
        System.out.println(asked + " answers asked, " + wrong + " not as due");
        if (wrong > 0) {
            System.exit(1);
        }
    }
}
