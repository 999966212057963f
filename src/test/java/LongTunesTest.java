import java.util.Random;

/** TUNES of up to 24 NOTES: DISTANCE and KEY by a sum from the front, COLUMNS that add up to it. */
public final class LongTunesTest {
    private static final Checks is = new Checks();
    private static int[][] pitch;
    private static int[][] beats;
    private static int[] prices;

    public static void main(String[] args) {
        for (int run = 0; run < 18; run++) {
            is.part("run " + run);
            for (int pair = 0; pair < 9; pair++) {
                // The same house again for each pair: one house takes 512 calls.
                askAll(houseOf(run), pair / 3, pair % 3);
            }
        }
        is.end();
    }

    private static TuneHouse houseOf(int run) {
        Random dice = new Random(1000 + run);
        TuneHouse x = new TuneHouse();
        write(x, dice, run % 2 == 0 ? 12 : 61);
        // The PRICES of a new house first, then others.
        prices = new int[] {2, 8, 1, 5};
        for (int which = 0; which < prices.length && run >= 6; which++) {
            prices[which] = dice.nextInt(which % 2 == 0 ? 6 : 30);
            is.due("price", x.price(which, prices[which]), true);
        }
        return x;
    }

    private static void write(TuneHouse x, Random dice, int pitches) {
        pitch = new int[3][];
        beats = new int[3][];
        for (int s = 0; s < 3; s++) {
            int length = dice.nextInt(4) == 0 ? dice.nextInt(25) : 20 + dice.nextInt(5);
            pitch[s] = new int[length];
            beats[s] = new int[length];
            x.sheet(s, 1700, 0);
            for (int i = 0; i < length; i++) {
                pitch[s][i] = dice.nextInt(8) == 0 ? -1 : dice.nextInt(pitches);
                beats[s][i] = 1 + dice.nextInt(6);
                is.due("note", x.note(s, pitch[s][i], beats[s][i]), i + 1);
            }
        }
    }

    private static void askAll(TuneHouse x, int t, int u) {
        int least = Integer.MAX_VALUE;
        int key = 0;
        for (int k = -12; k <= 12; k++) {
            int sum = fromFront(t, u, k)[0][0];
            boolean nearer = sum == least && (Math.abs(k) < Math.abs(key));
            if (sum < least || nearer) {
                least = sum;
                key = k;
            }
        }
        String of = " of " + t + ", " + u;
        is.due("distance" + of, x.distance(t, u, 0), least);
        is.due("key" + of, x.key(t, u, 0), key);
        walk(x, t, u, key, least, of);
    }

    /** Walks the told COLUMNS from the last one back, and asks at each whether it may stand there. */
    private static void walk(TuneHouse x, int t, int u, int k, int least, String of) {
        int last = 0;
        while (last < 48 && x.column(t, u, 0, last, 2) != TuneHouse.NONE) {
            last++;
        }
        int i = pitch[t].length;
        int j = pitch[u].length;
        int left = least;
        for (int c = last - 1; c >= 0; c--) {
            int ti = x.column(t, u, 0, c, 0);
            int uj = x.column(t, u, 0, c, 1);
            boolean two = i > 0 && j > 0 && head(t, u, k, i - 1, j - 1) + two(t, u, k, i - 1, j - 1) == left;
            boolean one = !two && i > 0 && head(t, u, k, i - 1, j) + one(t, i - 1) == left;
            is.due("column " + c + of + ", t", ti, two || one ? i - 1 : -1);
            is.due("column " + c + of + ", u", uj, two || !one ? j - 1 : -1);
            i -= ti >= 0 ? 1 : 0;
            j -= uj >= 0 ? 1 : 0;
            left -= x.column(t, u, 0, c, 2);
        }
        is.due("notes of t left" + of, i, 0);
        is.due("notes of u left" + of, j, 0);
        is.due("sum left" + of, left, 0);
    }

    /** The least sum of the first i NOTES of t and the first j of u. */
    private static int head(int t, int u, int k, int i, int j) {
        int[] row = new int[j + 1];
        for (int a = 0; a <= i; a++) {
            int slant = 0;
            for (int b = 0; b <= j; b++) {
                int above = row[b];
                int best = a == 0 && b == 0 ? 0 : Integer.MAX_VALUE;
                best = a > 0 ? Math.min(best, above + one(t, a - 1)) : best;
                best = b > 0 ? Math.min(best, row[b - 1] + one(u, b - 1)) : best;
                best = a > 0 && b > 0 ? Math.min(best, slant + two(t, u, k, a - 1, b - 1)) : best;
                slant = above;
                row[b] = best;
            }
        }
        return row[j];
    }

    /** The least sums of what is left behind i NOTES of t and j of u. */
    private static int[][] fromFront(int t, int u, int k) {
        int n = pitch[t].length;
        int m = pitch[u].length;
        int[][] rest = new int[n + 1][m + 1];
        for (int i = n; i >= 0; i--) {
            for (int j = m; j >= 0; j--) {
                int best = i == n && j == m ? 0 : Integer.MAX_VALUE;
                best = i < n ? Math.min(best, rest[i + 1][j] + one(t, i)) : best;
                best = j < m ? Math.min(best, rest[i][j + 1] + one(u, j)) : best;
                best = i < n && j < m ? Math.min(best, rest[i + 1][j + 1] + two(t, u, k, i, j)) : best;
                rest[i][j] = best;
            }
        }
        return rest;
    }

    private static int one(int t, int i) {
        return pitch[t][i] == -1 ? 0 : prices[3];
    }

    private static int two(int t, int u, int k, int i, int j) {
        if (pitch[t][i] == -1 || pitch[u][j] == -1) {
            return 0;
        }
        int steps = prices[0] * Math.abs(pitch[t][i] + k - pitch[u][j]);
        return Math.min(prices[1], steps) + prices[2] * Math.abs(beats[t][i] - beats[u][j]);
    }
}
