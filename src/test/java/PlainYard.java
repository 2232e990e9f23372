import java.util.ArrayList;
import java.util.Arrays;
import java.util.List;
import java.util.NoSuchElementException;

/**
 * The document once more, in other means than the program's: wood as a row of units, GIVES by trying all ways to
 * cut a part, sets by their rows in order, DAYS one by one. Slow, and only for comparing.
 */
final class PlainYard {
    private static final class Wood {
        int split;
        boolean[] sound = new boolean[600];
    }

    private static final class Made {
        int form;
        int[] bolt;
        List<List<Integer>> past = new ArrayList<>();
        List<int[]> row = new ArrayList<>();
    }

    private final List<int[]> forms = new ArrayList<>();
    private final List<Wood> bolts = new ArrayList<>();
    private final List<Made> casks = new ArrayList<>();
    private final boolean[][] barring = new boolean[16][16];
    private final int[] weights = new int[16];
    private int now = 0;

    PlainYard() {
        Arrays.fill(weights, 1000);
    }

    private static void need(boolean there) {
        if (!there) {
            throw new NoSuchElementException();
        }
    }

    private static void legal(boolean so) {
        if (!so) {
            throw new IllegalArgumentException();
        }
    }

    private int[] formAt(int i) {
        need(i >= 0 && i < forms.size());
        return forms.get(i);
    }

    private Wood boltAt(int i) {
        need(i >= 0 && i < bolts.size());
        return bolts.get(i);
    }

    private Made caskAt(int i) {
        need(i >= 0 && i < casks.size());
        return casks.get(i);
    }

    int form(int height, int bilge, int head, int staves) {
        boolean told = height >= 10 && height <= 200 && height % 2 == 0 && bilge >= 100 && bilge <= 2000
                && head >= 50 && head <= bilge && staves >= 8 && staves <= 40;
        if (!told || forms.size() == 8) {
            return -1;
        }
        forms.add(new int[] {height, bilge, head, staves});
        return forms.size() - 1;
    }

    private static int girthOf(int[] f, int y) {
        long off = 2L * y - f[0];
        return (int) (f[1] - (f[1] - f[2]) * off * off / ((long) f[0] * f[0]));
    }

    private static int widthOf(int[] f, int k, int y) {
        int g = girthOf(f, y);
        return g * (k + 1) / f[3] - g * k / f[3];
    }

    private static int middle(int[] f, int k) {
        return widthOf(f, k, f[0] / 2);
    }

    private static long holdsOf(int[] f, int level) {
        long sum = 0;
        for (int y = 0; y <= level - 1; y++) {
            sum += (long) girthOf(f, y) * girthOf(f, y);
        }
        return sum * 113 / 1420;
    }

    int girth(int form, int y) {
        int[] f = formAt(form);
        legal(y >= 0 && y <= f[0]);
        return girthOf(f, y);
    }

    int width(int form, int stave, int y) {
        int[] f = formAt(form);
        need(stave >= 0 && stave < f[3]);
        legal(y >= 0 && y <= f[0]);
        return widthOf(f, stave, y);
    }

    int holds(int form, int level) {
        int[] f = formAt(form);
        legal(level >= 0 && level <= f[0]);
        return (int) holdsOf(f, level);
    }

    int level(int form, int much) {
        int[] f = formAt(form);
        legal(much >= 0);
        int l = 0;
        while (l <= f[0] && holdsOf(f, l) < much) {
            l++;
        }
        return l > f[0] ? -1 : l;
    }

    int head(int form) {
        return girthOf(formAt(form), 0) * 113 / 355;
    }

    int days(int n) {
        legal(n >= 0 && (long) now + n <= 100000);
        now += n;
        return now;
    }

    int bolt(int width) {
        if (width < 1 || width > 600 || bolts.size() == 40) {
            return -1;
        }
        Wood w = new Wood();
        w.split = now;
        Arrays.fill(w.sound, 0, width, true);
        bolts.add(w);
        return bolts.size() - 1;
    }

    /** Parts never touch: a flaw or a cut of at least one unit always stands between two of them. */
    private static List<int[]> partsOf(boolean[] sound) {
        List<int[]> parts = new ArrayList<>();
        int x = 0;
        while (x < 600) {
            int y = x;
            while (y < 600 && sound[y]) {
                y++;
            }
            if (y > x) {
                parts.add(new int[] {x, y});
            }
            x = y + 1;
        }
        return parts;
    }

    int flaw(int bolt, int from, int to) {
        Wood w = boltAt(bolt);
        if (!(0 <= from && from < to && to <= 600)) {
            return -1;
        }
        boolean[] then = w.sound.clone();
        Arrays.fill(then, from, to, false);
        int many = partsOf(then).size();
        if (many > 4) {
            return -1;
        }
        w.sound = then;
        return many;
    }

    int clear(int bolt, int i, int what) {
        List<int[]> parts = partsOf(boltAt(bolt).sound);
        need(i >= 0 && i < parts.size() && (what == 0 || what == 1));
        return parts.get(i)[what];
    }

    boolean ripe(int bolt) {
        return now >= boltAt(bolt).split + 1095;
    }

    private static int narrowOf(int[] f) {
        int least = Integer.MAX_VALUE;
        for (int k = 0; k < f[3]; k++) {
            least = Math.min(least, middle(f, k) + 2);
        }
        return least;
    }

    private static int widesOf(int[] f) {
        int many = 0;
        for (int k = 0; k < f[3]; k++) {
            many += middle(f, k) + 2 > narrowOf(f) ? 1 : 0;
        }
        return many;
    }

    /** For each count of WIDE ones the most NARROW ones beside them, part by part. */
    private static boolean give(List<int[]> parts, int first, int wides, int narrows, int narrow) {
        int[] most = new int[wides + 1];
        Arrays.fill(most, -1);
        most[0] = 0;
        for (int p = first; p < parts.size(); p++) {
            int length = parts.get(p)[1] - parts.get(p)[0];
            int[] then = most.clone();
            for (int had = 0; had <= wides; had++) {
                for (int w = 0; most[had] >= 0 && had + w <= wides && w * (narrow + 1) <= length; w++) {
                    int n = most[had] + (length - w * (narrow + 1)) / narrow;
                    then[had + w] = Math.max(then[had + w], n);
                }
            }
            most = then;
        }
        return most[wides] >= narrows;
    }

    private List<int[]> partsOfSet(List<Integer> set) {
        List<int[]> parts = new ArrayList<>();
        for (int b : set) {
            for (int[] p : partsOf(bolts.get(b).sound)) {
                parts.add(new int[] {p[0], p[1], b});
            }
        }
        return parts;
    }

    private List<Integer> taken(int[] f) {
        List<Integer> looked = new ArrayList<>();
        for (int b = 0; b < bolts.size() && looked.size() < 8; b++) {
            if (ripe(b)) {
                looked.add(b);
            }
        }
        for (int size = 1; size <= looked.size(); size++) {
            List<Integer> set = firstOfSize(f, looked, size, 0, new ArrayList<>());
            if (set != null) {
                return set;
            }
        }
        return null;
    }

    private List<Integer> firstOfSize(int[] f, List<Integer> looked, int size, int from, List<Integer> row) {
        if (row.size() == size) {
            int wides = widesOf(f);
            return give(partsOfSet(row), 0, wides, f[3] - wides, narrowOf(f)) ? row : null;
        }
        for (int i = from; i < looked.size(); i++) {
            List<Integer> longer = new ArrayList<>(row);
            longer.add(looked.get(i));
            List<Integer> set = firstOfSize(f, looked, size, i + 1, longer);
            if (set != null) {
                return set;
            }
        }
        return null;
    }

    int fewest(int form) {
        List<Integer> set = taken(formAt(form));
        return set == null ? -1 : set.size();
    }

    int make(int form) {
        int[] f = formAt(form);
        List<Integer> set = taken(f);
        if (casks.size() == 30 || set == null) {
            return -1;
        }
        int narrow = narrowOf(f);
        int wides = widesOf(f);
        int narrows = f[3] - wides;
        List<Integer> wideFrom = new ArrayList<>();
        List<Integer> narrowFrom = new ArrayList<>();
        List<int[]> parts = partsOfSet(set);
        for (int p = 0; p < parts.size(); p++) {
            int[] part = parts.get(p);
            int length = part[1] - part[0];
            int w = Math.min(wides, length / (narrow + 1));
            int n = Math.min(narrows, (length - w * (narrow + 1)) / narrow);
            while (!give(parts, p + 1, wides - w, narrows - n, narrow)) {
                w--;
                n = Math.min(narrows, (length - w * (narrow + 1)) / narrow);
            }
            wides -= w;
            narrows -= n;
            for (int j = 0; j < w; j++) {
                wideFrom.add(part[2]);
            }
            for (int j = 0; j < n; j++) {
                narrowFrom.add(part[2]);
            }
            Arrays.fill(bolts.get(part[2]).sound, part[0], part[0] + w * (narrow + 1) + n * narrow, false);
        }
        Made m = new Made();
        m.form = form;
        m.bolt = new int[f[3]];
        for (int k = 0; k < f[3]; k++) {
            m.bolt[k] = middle(f, k) + 2 > narrow ? wideFrom.remove(0) : narrowFrom.remove(0);
            m.past.add(new ArrayList<>());
        }
        casks.add(m);
        return casks.size() - 1;
    }

    int stave(int cask, int stave, int what) {
        Made m = caskAt(cask);
        need(stave >= 0 && stave < m.bolt.length && what >= 0 && what <= 2);
        int bits = 0;
        for (int kind : m.past.get(stave)) {
            bits |= 1 << kind;
        }
        return what == 0 ? m.bolt[stave] : what == 1 ? bits : middle(forms.get(m.form), stave);
    }

    int formOf(int cask) {
        return caskAt(cask).form;
    }

    boolean bars(int a, int b, boolean is) {
        legal(a >= 0 && a < 16 && b >= 0 && b < 16);
        boolean did = barring[a][b];
        barring[a][b] = is;
        return did;
    }

    boolean may(int cask, int kind) {
        Made m = caskAt(cask);
        legal(kind >= 0 && kind < 16);
        for (List<Integer> met : m.past) {
            for (int a : met) {
                if (barring[a][kind]) {
                    return false;
                }
            }
        }
        return true;
    }

    int tell(int cask, int day, int kind) {
        Made m = caskAt(cask);
        legal(kind >= 0 && kind <= 16);
        if (day < 0 || day > now || m.row.size() == 40 || kind < 16 && !may(cask, kind)) {
            return -1;
        }
        for (List<Integer> met : m.past) {
            if (kind < 16 && !met.contains(kind)) {
                met.add(kind);
            }
        }
        m.row.add(new int[] {day, now, kind});
        return m.row.size();
    }

    int held(int cask, int day, int known) {
        int[] best = null;
        for (int[] e : caskAt(cask).row) {
            if (e[1] <= known && e[0] <= day && (best == null || e[0] >= best[0])) {
                best = e;
            }
        }
        return best == null ? -1 : best[2];
    }

    int lacks(int cask, int from, int to, int what) {
        caskAt(cask);
        legal(0 <= from && from <= to && to <= 100000 && (what == 0 || what == 1));
        int many = 0;
        for (int d = from; d <= to; d++) {
            many += held(cask, d, now) == (what == 0 ? -1 : 16) ? 1 : 0;
        }
        return many;
    }

    boolean swap(int cask, int stave, int other, int another) {
        Made a = caskAt(cask);
        Made b = caskAt(other);
        need(stave >= 0 && stave < a.bolt.length && another >= 0 && another < b.bolt.length);
        if (cask == other || stave(cask, stave, 2) != stave(other, another, 2)) {
            return false;
        }
        int bolt = a.bolt[stave];
        a.bolt[stave] = b.bolt[another];
        b.bolt[another] = bolt;
        b.past.set(another, a.past.set(stave, b.past.get(another)));
        return true;
    }

    int renew(int cask, int stave) {
        Made m = caskAt(cask);
        need(stave >= 0 && stave < m.bolt.length);
        int piece = stave(cask, stave, 2) + 2;
        for (int b = 0; b < bolts.size(); b++) {
            for (int[] p : partsOf(bolts.get(b).sound)) {
                if (ripe(b) && p[1] - p[0] >= piece) {
                    Arrays.fill(bolts.get(b).sound, p[0], p[0] + piece, false);
                    m.bolt[stave] = b;
                    m.past.set(stave, new ArrayList<>());
                    return b;
                }
            }
        }
        return -1;
    }

    int weight(int kind, int v) {
        legal(kind >= 0 && kind < 16 && v >= 1 && v <= 5000);
        int was = weights[kind];
        weights[kind] = v;
        return was;
    }

    long weighs(int cask, int level) {
        int[] f = forms.get(caskAt(cask).form);
        legal(level >= 0 && level <= f[0]);
        int kind = held(cask, now, now);
        return kind < 0 || kind > 15 ? -1 : holdsOf(f, level) * weights[kind] / 1000;
    }

    int count(int what) {
        need(what >= 0 && what <= 3);
        return new int[] {now, forms.size(), bolts.size(), casks.size()}[what];
    }
}
