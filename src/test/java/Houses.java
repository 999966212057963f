/** Houses to ask, and numbers that no sentence of the document allows, for the tests that extend this. */
abstract class Houses {
    static final int NONE = TuneHouse.NONE;
    static final int LOW = Integer.MIN_VALUE;
    static final int HIGH = Integer.MAX_VALUE;
    static final int NO_KEY = 100;
    static final int NO_HABIT = -1000000;

    /** A house with one SHEET a row, sheet i of hand i % 6 from the year 1000 + i, WORDS i % 10. */
    static TuneHouse house(int[]... tunes) {
        TuneHouse x = new TuneHouse();
        for (int i = 0; i < tunes.length; i++) {
            x.sheet(i % 6, 1000 + i, i % 10);
            addNotes(x, i, tunes[i]);
        }
        return x;
    }

    /** The row holds PITCH, BEATS, PITCH, BEATS .. */
    static void addNotes(TuneHouse x, int sheet, int[] row) {
        for (int i = 0; i + 1 < row.length; i += 2) {
            x.note(sheet, row[i], row[i + 1]);
        }
    }

    static int[] tune(int... row) {
        return row;
    }

    /** A house with so many SHEETS, each of one NOTE of one PITCH, with these BEATS; all of one year. */
    static TuneHouse ofOneYear(int... beats) {
        TuneHouse x = new TuneHouse();
        for (int i = 0; i < beats.length; i++) {
            x.sheet(i % 6, 1900, i % 10);
            x.note(i, 30, beats[i]);
        }
        return x;
    }

    /** So many NOTES, all alike. */
    static int[] alike(int notes, int pitch, int beats) {
        int[] row = new int[2 * notes];
        for (int i = 0; i < notes; i++) {
            row[2 * i] = pitch;
            row[2 * i + 1] = beats;
        }
        return row;
    }

    /** 20 SHEETS of two hands by turns, sheet i from the year i. */
    static TuneHouse fullHouse() {
        TuneHouse x = new TuneHouse();
        for (int i = 0; i < 20; i++) {
            x.sheet(i % 2, i, i % 10);
        }
        return x;
    }
}
