import java.util.ArrayList;
import java.util.Arrays;
import java.util.HashSet;
import java.util.List;
import java.util.Set;
import java.util.TreeMap;

/** The document written a second time, as slowly and plainly as can be, to compare answers with. */
final class PlainModel {
    static final int NONE = -1, UNKNOWN = -2, OUTSIDE = -3, NOT = -4, BLUNT = -5, FULL = -6;

    private static final class Gathering {
        boolean[] there;
        boolean looked = false;
    }

    private static final class Tome {
        final List<Gathering> gatherings = new ArrayList<>();
        final int[][] gone = new int[2][5];
        int at = 0;
        int[] hours = {1, 1, 1, 1, 1};
        int dries = 0, promised = 2000, price = 0;

        int[] figures() {
            int[] f = Arrays.copyOf(hours, 8);
            f[5] = dries;
            f[6] = promised;
            f[7] = price;
            return f;
        }
    }

    private static final class Hide {
        int[][] state;
        int tone, cuts = 0;
    }

    private final List<Tome> tomes = new ArrayList<>();
    private TreeMap<Integer, int[]> plannedFigures = new TreeMap<>();
    private List<Integer> plannedOrder = new ArrayList<>();
    private final int[] widths = new int[27];
    private final int[] stamped = new int[27];
    private final List<Integer> text = new ArrayList<>();
    private List<Integer> brokenLines = null;
    private int last = 100;
    private List<Hide> hides = new ArrayList<>();
    private int day = 0;
    private final List<int[]> rates = new ArrayList<>();
    private final List<int[]> passes = new ArrayList<>();

    PlainModel() {
        Arrays.fill(widths, 5);
        widths[0] = 3;
    }

    private static boolean out(int v, int least, int most) {
        return v < least || v > most;
    }

    private boolean noTome(int book) {
        return out(book, 0, tomes.size() - 1);
    }

    int book() {
        if (tomes.size() == 10) return FULL;
        tomes.add(new Tome());
        return tomes.size() - 1;
    }

    int gather(int book, int leaves) {
        if (noTome(book)) return UNKNOWN;
        if (out(leaves, 1, 16)) return OUTSIDE;
        Tome t = tomes.get(book);
        if (t.at != 0) return NOT;
        if (t.gatherings.size() == 6) return FULL;
        Gathering g = new Gathering();
        g.there = new boolean[leaves];
        Arrays.fill(g.there, true);
        t.gatherings.add(g);
        return t.gatherings.size() - 1;
    }

    int look(int book, int gathering, int seen) {
        if (noTome(book)) return UNKNOWN;
        Tome t = tomes.get(book);
        if (out(gathering, 0, t.gatherings.size() - 1)) return UNKNOWN;
        Gathering g = t.gatherings.get(gathering);
        for (int bit = g.there.length; bit < 32; bit++) {
            if ((seen >> bit & 1) != 0) return OUTSIDE;
        }
        if (t.at == 5) return NOT;
        int changes = 0;
        for (int leaf = 0; leaf < g.there.length; leaf++) {
            boolean now = (seen >> leaf & 1) != 0;
            if (now != g.there[leaf]) {
                changes++;
                t.gone[now ? 1 : 0][t.at]++;
                g.there[leaf] = now;
            }
        }
        g.looked = true;
        return changes;
    }

    int pass(int book) {
        if (noTome(book)) return UNKNOWN;
        Tome t = tomes.get(book);
        if (t.at == 5 || t.gatherings.isEmpty()) return NOT;
        for (Gathering g : t.gatherings) {
            if (!g.looked) return NOT;
        }
        for (Gathering g : t.gatherings) {
            g.looked = false;
        }
        passes.add(new int[] {t.at, day});
        t.at++;
        return t.at;
    }

    int told(int book, int what) {
        if (noTome(book)) return UNKNOWN;
        if (out(what, 0, 3)) return OUTSIDE;
        Tome t = tomes.get(book);
        if (what == 0) return t.at;
        if (what == 1) return t.gatherings.size();
        int sum = 0;
        for (Gathering g : t.gatherings) {
            for (boolean leaf : g.there) {
                sum += leaf || what == 3 ? 1 : 0;
            }
        }
        return sum;
    }

    int there(int book, int gathering) {
        if (noTome(book)) return UNKNOWN;
        Tome t = tomes.get(book);
        if (out(gathering, 0, t.gatherings.size() - 1)) return UNKNOWN;
        int bits = 0;
        boolean[] there = t.gatherings.get(gathering).there;
        for (int leaf = 0; leaf < there.length; leaf++) {
            bits += there[leaf] ? 1 << leaf : 0;
        }
        return bits;
    }

    int gone(int book, int bench, int way) {
        if (noTome(book) || out(bench, 0, 4)) return UNKNOWN;
        if (out(way, 0, 1)) return OUTSIDE;
        return tomes.get(book).gone[way][bench];
    }

    int hours(int book, int bench, int hours) {
        if (noTome(book) || out(bench, 0, 4)) return UNKNOWN;
        if (out(hours, 0, 50)) return OUTSIDE;
        tomes.get(book).hours[bench] = hours;
        return 1;
    }

    int promise(int book, int dries, int hour, int price) {
        if (noTome(book)) return UNKNOWN;
        if (out(dries, 0, 30) || out(hour, 0, 2000) || out(price, 0, 100)) return OUTSIDE;
        Tome t = tomes.get(book);
        t.dries = dries;
        t.promised = hour;
        t.price = price;
        return 1;
    }

    int plan(int set) {
        TreeMap<Integer, int[]> figures = new TreeMap<>();
        for (int bit = 0; bit < 32; bit++) {
            if ((set >> bit & 1) != 0) {
                if (noTome(bit)) return UNKNOWN;
                figures.put(bit, tomes.get(bit).figures());
            }
        }
        if (out(figures.size(), 1, 7)) return OUTSIDE;
        plannedFigures = figures;
        List<List<Integer>> orders = new ArrayList<>();
        allOrders(new ArrayList<>(), orders);
        int[] least = null;
        for (List<Integer> order : orders) {
            int[] ends = ends(order);
            int cost = 0;
            for (int i = 0; i < ends.length; i++) {
                int[] f = figures.get(order.get(i));
                if (ends[i] > f[6]) cost += f[7] * (ends[i] - f[6]);
            }
            int lastEnd = Arrays.stream(ends).max().getAsInt();
            if (least == null || cost < least[0] || cost == least[0] && lastEnd < least[1]) {
                least = new int[] {cost, lastEnd};
                plannedOrder = order;
            }
        }
        return least[0];
    }

    /** All orders, the first (by number) ahead. */
    private void allOrders(List<Integer> begun, List<List<Integer>> all) {
        if (begun.size() == plannedFigures.size()) {
            all.add(new ArrayList<>(begun));
        }
        for (int number : plannedFigures.keySet()) {
            if (!begun.contains(number)) {
                begun.add(number);
                allOrders(begun, all);
                begun.remove(begun.size() - 1);
            }
        }
    }

    private int[] ends(List<Integer> order) {
        int n = order.size();
        int[][] leaves = new int[n][5];
        for (int i = 0; i < n; i++) {
            int[] f = plannedFigures.get(order.get(i));
            for (int bench = 0; bench < 5; bench++) {
                int begin = 0;
                if (bench > 0) begin = leaves[i][bench - 1] + (bench == 3 ? f[5] : 0);
                if (i > 0 && leaves[i - 1][bench] > begin) begin = leaves[i - 1][bench];
                leaves[i][bench] = begin + f[bench];
            }
        }
        int[] ends = new int[n];
        for (int i = 0; i < n; i++) {
            ends[i] = leaves[i][4];
        }
        return ends;
    }

    int planned(int i, int what) {
        if (out(what, 0, 1) || out(i, 0, plannedOrder.size() - 1)) return OUTSIDE;
        return what == 0 ? plannedOrder.get(i) : ends(plannedOrder)[i];
    }

    int delays(int book) {
        if (noTome(book)) return UNKNOWN;
        if (!plannedOrder.contains(book)) return NOT;
        List<Integer> moved = new ArrayList<>(plannedOrder);
        moved.remove((Integer) book);
        moved.add(0, book);
        int[] before = ends(plannedOrder);
        int[] then = ends(moved);
        int bits = 0;
        for (int i = 0; i < before.length; i++) {
            int number = plannedOrder.get(i);
            if (then[moved.indexOf(number)] > before[i]) bits |= 1 << number;
        }
        return bits;
    }

    int width(int letter, int w) {
        if (out(letter, 0, 26)) return UNKNOWN;
        if (out(w, letter == 0 ? 0 : 1, 20)) return OUTSIDE;
        int was = widths[letter];
        widths[letter] = w;
        return was;
    }

    int sign(int letter) {
        if (out(letter, 0, 26)) return UNKNOWN;
        if (text.size() == 40) return FULL;
        text.add(letter);
        return text.size();
    }

    int wipe() {
        int was = text.size();
        text.clear();
        return was;
    }

    private List<List<Integer>> words() {
        List<List<Integer>> words = new ArrayList<>();
        List<Integer> word = new ArrayList<>();
        for (int i = 0; i <= text.size(); i++) {
            if (i < text.size() && text.get(i) != 0) {
                word.add(text.get(i));
            } else if (!word.isEmpty()) {
                words.add(word);
                word = new ArrayList<>();
            }
        }
        return words;
    }

    private List<Integer> bestLines;
    private int bestCost;

    int broken(int w, int k) {
        if (out(w, 1, 400) || out(k, 1, 6)) return OUTSIDE;
        List<List<Integer>> words = words();
        if (words.isEmpty()) return NOT;
        bestLines = null;
        // With fewer lines first and fewer words in a line first, the first of several stays.
        for (int lines = 1; lines <= k; lines++) {
            tryLines(words, 0, lines, w, 0, new ArrayList<>());
        }
        brokenLines = bestLines;
        return bestLines == null ? NONE : bestCost;
    }

    private void tryLines(List<List<Integer>> words, int from, int left, int w, int cost, List<Integer> lines) {
        if (left == 0) {
            if (from == words.size() && (bestLines == null || cost < bestCost)) {
                bestLines = new ArrayList<>(lines);
                bestCost = cost;
            }
            return;
        }
        int wide = 0;
        for (int n = 1; from + n <= words.size(); n++) {
            if (n > 1) wide += widths[0];
            for (int letter : words.get(from + n - 1)) {
                wide += widths[letter];
            }
            if (wide > w) return;
            lines.add(n);
            tryLines(words, from + n, left - 1, w, cost + (w - wide) * (w - wide), lines);
            lines.remove(lines.size() - 1);
        }
    }

    int line(int i) {
        if (brokenLines == null || out(i, 0, brokenLines.size() - 1)) return OUTSIDE;
        return brokenLines.get(i);
    }

    int stamp() {
        int[] then = stamped.clone();
        Set<Integer> used = new HashSet<>();
        int letters = 0;
        for (int letter : text) {
            if (letter != 0) {
                then[letter]++;
                letters++;
                used.add(letter);
            }
        }
        if (letters == 0) return NOT;
        for (int letter : used) {
            if (then[letter] > last) return BLUNT;
        }
        System.arraycopy(then, 0, stamped, 0, 27);
        return letters;
    }

    int sharpen(int letter) {
        if (out(letter, 1, 26)) return UNKNOWN;
        int was = stamped[letter];
        stamped[letter] = 0;
        return was;
    }

    int last(int v) {
        if (out(v, 1, 1000)) return OUTSIDE;
        int was = last;
        last = v;
        return was;
    }

    int skin(int w, int h, int tone) {
        if (out(w, 1, 12) || out(h, 1, 12) || out(tone, 0, 9)) return OUTSIDE;
        if (hides.size() == 6) return FULL;
        Hide hide = new Hide();
        hide.state = new int[h][w];
        hide.tone = tone;
        hides.add(hide);
        return hides.size() - 1;
    }

    private int placeRefused(int skin, int x, int y) {
        if (out(skin, 0, hides.size() - 1)) return UNKNOWN;
        int[][] state = hides.get(skin).state;
        return out(y, 0, state.length - 1) || out(x, 0, state[0].length - 1) ? OUTSIDE : 0;
    }

    int flaw(int skin, int x, int y) {
        int refused = placeRefused(skin, x, y);
        if (refused != 0) return refused;
        if (hides.get(skin).state[y][x] != 0) return NOT;
        hides.get(skin).state[y][x] = 1;
        return 1;
    }

    private static boolean free(int[][] state, int x, int y, int w, int h) {
        for (int j = 0; j < h; j++) {
            for (int i = 0; i < w; i++) {
                if (y + j >= state.length || x + i >= state[0].length || state[y + j][x + i] != 0) return false;
            }
        }
        return true;
    }

    private static int cutOf(Hide hide, int w, int h) {
        for (int y = 0; y < 12; y++) {
            for (int x = 0; x < 12; x++) {
                for (int turned = 0; turned < 2; turned++) {
                    int a = turned == 0 ? w : h;
                    int b = turned == 0 ? h : w;
                    if (free(hide.state, x, y, a, b)) {
                        for (int j = y; j < y + b; j++) {
                            Arrays.fill(hide.state[j], x, x + a, 2 + hide.cuts);
                        }
                        hide.cuts++;
                        return x + 100 * y + 10000 * turned;
                    }
                }
            }
        }
        return NOT;
    }

    int cut(int skin, int w, int h) {
        if (out(skin, 0, hides.size() - 1)) return UNKNOWN;
        if (out(w, 1, 12) || out(h, 1, 12)) return OUTSIDE;
        return cutOf(hides.get(skin), w, h);
    }

    int covers(int tone, int w, int h, int n) {
        if (out(tone, 0, 9) || out(w, 1, 12) || out(h, 1, 12) || out(n, 1, 8)) return OUTSIDE;
        List<Hide> copies = new ArrayList<>();
        for (Hide hide : hides) {
            Hide copy = new Hide();
            copy.tone = hide.tone;
            copy.cuts = hide.cuts;
            copy.state = new int[hide.state.length][];
            for (int y = 0; y < copy.state.length; y++) {
                copy.state[y] = hide.state[y].clone();
            }
            copies.add(copy);
        }
        Set<Integer> used = new HashSet<>();
        for (int i = 0; i < n; i++) {
            boolean done = false;
            for (int s = 0; s < copies.size() && !done; s++) {
                done = copies.get(s).tone == tone && cutOf(copies.get(s), w, h) != NOT;
                if (done) used.add(s);
            }
            if (!done) return NOT;
        }
        hides = copies;
        return used.size();
    }

    int spot(int skin, int x, int y) {
        int refused = placeRefused(skin, x, y);
        return refused != 0 ? refused : hides.get(skin).state[y][x];
    }

    int days(int n) {
        if (out(n, 1, 100) || day + n > 1000) return OUTSIDE;
        day += n;
        return day;
    }

    int rate(int bench, int from, int pence) {
        if (out(bench, 0, 4)) return UNKNOWN;
        if (out(from, 0, 1000) || out(pence, 0, 500)) return OUTSIDE;
        if (rates.size() == 30) return FULL;
        rates.add(new int[] {bench, from, pence, day});
        return rates.size();
    }

    int rateAt(int bench, int d, int t) {
        if (out(bench, 0, 4)) return UNKNOWN;
        if (out(d, 0, 1000) || out(t, 0, 1000)) return OUTSIDE;
        for (int from = d; from >= 0; from--) {
            for (int i = rates.size() - 1; i >= 0; i--) {
                int[] r = rates.get(i);
                if (r[0] == bench && r[1] == from && r[3] <= t) return r[2];
            }
        }
        return 0;
    }

    int wages(int a, int b, int t) {
        if (out(a, 0, 1000) || out(b, 0, 1000) || out(t, 0, 1000)) return OUTSIDE;
        int sum = 0;
        for (int[] pass : passes) {
            if (pass[1] >= a && pass[1] <= b) sum += rateAt(pass[0], pass[1], t);
        }
        return sum;
    }

    int count(int what) {
        if (out(what, 0, 6)) return OUTSIDE;
        int[] counts = {tomes.size(), hides.size(), passes.size(), day, text.size(), words().size(), rates.size()};
        return counts[what];
    }
}
