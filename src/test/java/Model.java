import java.util.ArrayList;
import java.util.List;
import java.util.NoSuchElementException;
import java.util.TreeSet;

/**
 * The document's terms written down as they stand, with nothing kept between calls: every
 * ALIGNMENT of TUNES of a few NOTES is looked at, one by one; those of long ones are summed up.
 */
final class Model {
    private static final int[] TOPS = {20, 200, 20, 200, 10000};
    // So many NOTES of both have some 1,700 ALIGNMENTS at most.
    private static final int FEW = 10;

    private record Note(int pitch, int beats) {
        boolean isGap() {
            return pitch == -1;
        }
    }

    private record Amended(int day, int sheet, int i, Note note) { }

    private record Column(int t, int u, int cost) { }

    private record Told(int sum, int key, List<Column> columns) { }

    private static final class Page {
        int hand;
        int year;
        int words;
        int forged = Integer.MAX_VALUE;
        List<Note> notes = new ArrayList<>();
    }

    private final int[] prices = {2, 8, 1, 5, 30};
    private final List<Page> pages = new ArrayList<>();
    private final List<Amended> amended = new ArrayList<>();
    private final List<int[]> doubles = new ArrayList<>();
    private int now;

    int sheet(int hand, int year, int words) {
        if (pages.size() == 20 || out(hand, 5) || out(year, 3000) || out(words, 9)) {
            return -1;
        }
        Page p = new Page();
        p.hand = hand;
        p.year = year;
        p.words = words;
        pages.add(p);
        return pages.size() - 1;
    }

    int note(int sheet, int pitch, int beats) {
        if (no(sheet) || badNote(pitch, beats) || pages.get(sheet).notes.size() == 24) {
            return -1;
        }
        pages.get(sheet).notes.add(new Note(pitch, pitch == -1 ? 0 : beats));
        return pages.get(sheet).notes.size();
    }

    boolean correct(int sheet, int i, int pitch, int beats) {
        if (no(sheet) || out(i, pages.get(sheet).notes.size() - 1) || badNote(pitch, beats)
            || amended.size() == 200) {
            return false;
        }
        amended.add(new Amended(now, sheet, i, new Note(pitch, pitch == -1 ? 0 : beats)));
        return true;
    }

    boolean forge(int sheet) {
        if (no(sheet) || pages.get(sheet).forged <= now) {
            return false;
        }
        pages.get(sheet).forged = now;
        return true;
    }

    boolean doubles(int one, int other) {
        if (no(one) || no(other) || pages.get(one).hand == pages.get(other).hand || doubles.size() == 60) {
            return false;
        }
        for (int[] d : doubles) {
            if (d[0] == one && d[1] == other || d[0] == other && d[1] == one) {
                return false;
            }
        }
        doubles.add(new int[] {one, other});
        return true;
    }

    int days(int n) {
        if (out(n, 1000) || out(now + n, 1000)) {
            return -1;
        }
        now += n;
        return now;
    }

    boolean price(int which, int coins) {
        if (out(which, 4) || out(coins, TOPS[which])) {
            return false;
        }
        prices[which] = coins;
        return true;
    }

    int at(int sheet, int i, int q, int what) {
        if (no(sheet) || out(i, pages.get(sheet).notes.size() - 1) || out(q, now) || out(what, 1)) {
            throw new NoSuchElementException();
        }
        Note n = tune(sheet, q).get(i);
        return what == 0 ? n.pitch : n.beats;
    }

    int distance(int one, int other, int q) {
        return no(one) || no(other) || out(q, now) ? -1 : told(one, other, q).sum;
    }

    int key(int one, int other, int q) {
        return no(one) || no(other) || out(q, now) ? 100 : told(one, other, q).key;
    }

    int column(int one, int other, int q, int i, int what) {
        if (no(one) || no(other) || out(q, now) || out(what, 2)) {
            return -1;
        }
        List<Column> columns = told(one, other, q).columns;
        if (out(i, columns.size() - 1)) {
            return -1;
        }
        Column c = columns.get(i);
        return what == 0 ? c.t : what == 1 ? c.u : c.cost;
    }

    int family(int sheet, int bar, int q) {
        return noFamily(sheet, bar, q) ? -1 : members(sheet, bar, q).first();
    }

    int kin(int sheet, int bar, int q) {
        return noFamily(sheet, bar, q) ? -1 : members(sheet, bar, q).size();
    }

    int sung(int sheet, int bar, int q) {
        if (noFamily(sheet, bar, q)) {
            return -1;
        }
        int bits = 0;
        for (int m : members(sheet, bar, q)) {
            bits |= 1 << pages.get(m).words;
        }
        return bits;
    }

    int source(int sheet, int q) {
        if (no(sheet) || out(q, now) || pages.get(sheet).forged <= q) {
            return -1;
        }
        List<Integer> earlier = earlier(sheet, q);
        int best = -1;
        for (int e : earlier) {
            if (best == -1 || distance(sheet, e, q) < distance(sheet, best, q)) {
                best = e;
            }
        }
        return best != -1 && distance(sheet, best, q) < prices[4] ? best : -1;
    }

    int changes(int sheet, int q) {
        if (no(sheet) || out(q, now) || pages.get(sheet).forged <= q) {
            return -1;
        }
        int from = source(sheet, q);
        return from == -1 ? prices[4] : distance(sheet, from, q);
    }

    int all(int q) {
        if (out(q, now)) {
            return -1;
        }
        int sum = 0;
        for (int s = 0; s < pages.size(); s++) {
            sum += Math.max(0, changes(s, q));
        }
        return sum;
    }

    int doubt(int sheet, int margin, int q) {
        if (no(sheet) || out(q, now) || pages.get(sheet).forged <= q || out(margin, 10000)) {
            return -1;
        }
        int from = source(sheet, q);
        if (from == -1) {
            return 0;
        }
        int rivals = 0;
        for (int e : earlier(sheet, q)) {
            if (e != from && distance(sheet, e, q) <= distance(sheet, from, q) + margin) {
                rivals++;
            }
        }
        return rivals;
    }

    int habit(int hand, int other, int q, int what) {
        if (out(hand, 5) || out(other, 5) || hand == other || out(q, now) || out(what, 1)) {
            return -1000000;
        }
        int sum = 0;
        for (int[] d : doubles) {
            sum += habitIn(d[0], d[1], hand, other, q, what) + habitIn(d[1], d[0], hand, other, q, what);
        }
        return sum;
    }

    int span(int words, int q, boolean greatest) {
        TreeSet<Integer> years = new TreeSet<>();
        for (Page p : pages) {
            if (p.words == words && p.forged > q) {
                years.add(p.year);
            }
        }
        if (out(words, 9) || out(q, now) || years.isEmpty()) {
            return -1;
        }
        return greatest ? years.last() : years.first();
    }

    int count(int what) {
        int forged = 0;
        int notes = 0;
        for (Page p : pages) {
            forged += p.forged <= now ? 1 : 0;
            notes += p.notes.size();
        }
        int[] counts = {now, pages.size(), forged, notes, amended.size(), doubles.size()};
        return out(what, 5) ? -1 : counts[what];
    }

    private static boolean out(int value, int top) {
        return value < 0 || value > top;
    }

    private boolean no(int sheet) {
        return out(sheet, pages.size() - 1);
    }

    private static boolean badNote(int pitch, int beats) {
        return pitch != -1 && (out(pitch, 60) || beats < 1 || beats > 16);
    }

    private boolean noFamily(int sheet, int bar, int q) {
        return no(sheet) || out(bar, 10000) || out(q, now) || pages.get(sheet).forged <= q;
    }

    private List<Note> tune(int sheet, int q) {
        List<Note> notes = new ArrayList<>(pages.get(sheet).notes);
        for (Amended a : amended) {
            if (a.sheet == sheet && a.day <= q) {
                notes.set(a.i, a.note);
            }
        }
        return notes;
    }

    /** All others not FORGED that are EARLIER, the EARLIEST first. */
    private List<Integer> earlier(int sheet, int q) {
        List<Integer> found = new ArrayList<>();
        for (int e = 0; e < pages.size(); e++) {
            int years = Integer.compare(pages.get(e).year, pages.get(sheet).year);
            if (pages.get(e).forged > q && (years < 0 || years == 0 && e < sheet)) {
                found.add(e);
            }
        }
        found.sort((a, b) -> pages.get(a).year * 100 + a - pages.get(b).year * 100 - b);
        return found;
    }

    /** Families by joining, over and over, whatever LINKS join. */
    private TreeSet<Integer> members(int sheet, int bar, int q) {
        int[] group = new int[pages.size()];
        for (int s = 0; s < group.length; s++) {
            group[s] = s;
        }
        for (int a = 0; a < group.length; a++) {
            for (int b = 0; b < group.length; b++) {
                boolean linked = pages.get(a).forged > q && pages.get(b).forged > q && distance(a, b, q) <= bar;
                int from = group[a];
                int to = group[b];
                for (int s = 0; s < group.length && linked; s++) {
                    group[s] = group[s] == from ? to : group[s];
                }
            }
        }
        TreeSet<Integer> found = new TreeSet<>();
        for (int s = 0; s < group.length; s++) {
            if (group[s] == group[sheet]) {
                found.add(s);
            }
        }
        return found;
    }

    private int habitIn(int one, int other, int hand, int otherHand, int q, int what) {
        Page p = pages.get(one);
        Page r = pages.get(other);
        if (p.hand != hand || r.hand != otherHand || p.forged <= q || r.forged <= q) {
            return 0;
        }
        int sum = 0;
        Told told = told(one, other, q);
        for (Column c : told.columns) {
            if (c.t >= 0 && c.u >= 0) {
                Note n = tune(one, q).get(c.t);
                Note m = tune(other, q).get(c.u);
                if (!n.isGap() && !m.isGap()) {
                    sum += what == 1 ? 1 : n.pitch + told.key - m.pitch;
                }
            }
        }
        return sum;
    }

    private Told told(int one, int other, int q) {
        List<Note> t = tune(one, q);
        List<Note> u = tune(other, q);
        Told best = null;
        for (int k = -12; k <= 12; k++) {
            List<Told> every = new ArrayList<>();
            if (t.size() + u.size() <= FEW) {
                align(t, u, k, new ArrayList<>(), every);
            } else {
                every.add(summedUp(t, u, k));
            }
            for (Told a : every) {
                if (best == null || isBetter(a, best)) {
                    best = a;
                }
            }
        }
        return best;
    }

    private void align(List<Note> t, List<Note> u, int k, List<Column> done, List<Told> every) {
        int i = 0;
        int j = 0;
        int sum = 0;
        for (Column c : done) {
            i += c.t >= 0 ? 1 : 0;
            j += c.u >= 0 ? 1 : 0;
            sum += c.cost;
        }
        if (i == t.size() && j == u.size()) {
            every.add(new Told(sum, k, new ArrayList<>(done)));
        }
        if (i < t.size() && j < u.size()) {
            go(t, u, k, done, every, new Column(i, j, two(t.get(i), u.get(j), k)));
        }
        if (i < t.size()) {
            go(t, u, k, done, every, new Column(i, -1, t.get(i).isGap() ? 0 : prices[3]));
        }
        if (j < u.size()) {
            go(t, u, k, done, every, new Column(-1, j, u.get(j).isGap() ? 0 : prices[3]));
        }
    }

    /** The one ALIGNMENT told with a KEY, found from the sums of the first NOTES of both. */
    private Told summedUp(List<Note> t, List<Note> u, int k) {
        int[][] sums = new int[t.size() + 1][u.size() + 1];
        for (int i = 0; i <= t.size(); i++) {
            for (int j = 0; j <= u.size(); j++) {
                int sort = lastSort(sums, t, u, k, i, j);
                sums[i][j] = i == 0 && j == 0 ? 0 : lastSum(sums, t, u, k, i, j, sort);
            }
        }
        ArrayList<Column> columns = new ArrayList<>();
        int i = t.size();
        int j = u.size();
        while (i > 0 || j > 0) {
            int sort = lastSort(sums, t, u, k, i, j);
            int before = sums[i - (sort < 2 ? 1 : 0)][j - (sort != 1 ? 1 : 0)];
            int cost = lastSum(sums, t, u, k, i, j, sort) - before;
            i -= sort < 2 ? 1 : 0;
            j -= sort != 1 ? 1 : 0;
            columns.add(0, new Column(sort < 2 ? i : -1, sort != 1 ? j : -1, cost));
        }
        return new Told(sums[t.size()][u.size()], k, columns);
    }

    /** 0 two, 1 t's NOTE alone, 2 u's alone: the first of those with the least sum. */
    private int lastSort(int[][] sums, List<Note> t, List<Note> u, int k, int i, int j) {
        int best = 0;
        for (int sort = 1; sort <= 2; sort++) {
            boolean less = lastSum(sums, t, u, k, i, j, sort) < lastSum(sums, t, u, k, i, j, best);
            best = less ? sort : best;
        }
        return best;
    }

    private int lastSum(int[][] sums, List<Note> t, List<Note> u, int k, int i, int j, int sort) {
        if (i == 0 && sort < 2 || j == 0 && sort != 1) {
            return 1000000;
        }
        return switch (sort) {
            case 0 -> sums[i - 1][j - 1] + two(t.get(i - 1), u.get(j - 1), k);
            case 1 -> sums[i - 1][j] + (t.get(i - 1).isGap() ? 0 : prices[3]);
            default -> sums[i][j - 1] + (u.get(j - 1).isGap() ? 0 : prices[3]);
        };
    }

    private void go(List<Note> t, List<Note> u, int k, List<Column> done, List<Told> every, Column next) {
        done.add(next);
        align(t, u, k, done, every);
        done.remove(done.size() - 1);
    }

    private int two(Note n, Note m, int k) {
        if (n.isGap() || m.isGap()) {
            return 0;
        }
        int steps = prices[0] * Math.abs(n.pitch + k - m.pitch);
        return (steps > prices[1] ? prices[1] : steps) + prices[2] * Math.abs(n.beats - m.beats);
    }

    private static boolean isBetter(Told a, Told b) {
        if (a.sum != b.sum) {
            return a.sum < b.sum;
        }
        if (Math.abs(a.key) != Math.abs(b.key)) {
            return Math.abs(a.key) < Math.abs(b.key);
        }
        if (a.key != b.key) {
            return a.key < b.key;
        }
        for (int back = 1; back <= a.columns.size() && back <= b.columns.size(); back++) {
            int x = sort(a.columns.get(a.columns.size() - back));
            int y = sort(b.columns.get(b.columns.size() - back));
            if (x != y) {
                return x < y;
            }
        }
        return false;
    }

    private static int sort(Column c) {
        return c.t >= 0 && c.u >= 0 ? 0 : c.t >= 0 ? 1 : 2;
    }
}
