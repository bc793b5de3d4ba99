import java.math.BigInteger;
import java.util.ArrayList;
import java.util.Arrays;
import java.util.List;
import java.util.TreeSet;

/**
 * The document once more, written to be plain and not fast: tables of all pairs, all subsets, all orders, all walks of
 * so many strides. RandomRunsTest holds the class against it.
 */
final class Model {
    private static final int UNKNOWN = -1, OUTSIDE = -2, STATE = -3, FULL = -4, NO = -5, NONE = -6;
    private static final long GONE = -1000000000000000000L;
    private static final int NEVER = 1 << 20;

    private String pad = "";
    private int rows = 4;
    private int columns = 4;
    private String land = "................";
    private int home;
    private TreeSet<Integer> changing = new TreeSet<>();
    private int[] leagues = {1, 2, 3, 4};
    private int[] heels = {99, 99, 99, 99};
    private int[] paces = {1, 3};
    private int[][] people = new int[4][];
    private List<int[]> sights = new ArrayList<>();
    private final Model[] images = new Model[2];

    private boolean noCell(int c) {
        return c < 0 || c >= land.length();
    }

    private boolean wet(int c) {
        return noCell(c) || land.charAt(c) == '~';
    }

    private static boolean noBoots(int b) {
        return b < 0 || b > 3;
    }

    private int square(int a, int b) {
        int r = a / columns - b / columns;
        int c = a % columns - b % columns;
        return r * r + c * c;
    }

    private boolean stride(int league, int a, int b) {
        return !wet(b) && square(a, b) == league;
    }

    private void newLand(int r, int c, String text) {
        rows = r;
        columns = c;
        land = text;
        home = 0;
        while (land.charAt(home) == '~') {
            home++;
        }
        changing = new TreeSet<>();
        people = new int[4][];
        sights = new ArrayList<>();
    }

    int land(int r, int c) {
        if (r < 1 || r > 6 || c < 1 || c > 6) {
            return OUTSIDE;
        }
        newLand(r, c, ".".repeat(r * c));
        return r * c;
    }

    int say(int sign) {
        if (sign < 33 || sign > 126) {
            return OUTSIDE;
        }
        if (pad.length() == 60) {
            return FULL;
        }
        pad += (char) sign;
        return pad.length();
    }

    int wipe() {
        int n = pad.length();
        pad = "";
        return n;
    }

    /** The longest beginning of the PAD with which some text of this kind begins is where the FAULT is. */
    int fault(int how) {
        if (how != 0 && how != 1) {
            return OUTSIDE;
        }
        String whole = how == 0 ? "[.^~]{" + land.length() + "}" : "([a-f][0-5]|#[0-3])*";
        if (pad.matches(whole)) {
            return NONE;
        }
        String begun = how == 0 ? "[.^~]{0," + land.length() + "}" : "([a-f][0-5]|#[0-3])*[a-f#]?";
        int n = pad.length();
        while (!pad.substring(0, n).matches(begun)) {
            n--;
        }
        return n;
    }

    int lay() {
        if (fault(0) != NONE) {
            return NO;
        }
        if (pad.matches("~*")) {
            return STATE;
        }
        newLand(rows, columns, pad);
        pad = "";
        return land.replace("~", "").length();
    }

    int cell(int c) {
        return noCell(c) ? UNKNOWN : land.charAt(c);
    }

    int home(int c) {
        if (noCell(c)) {
            return UNKNOWN;
        }
        if (wet(c)) {
            return STATE;
        }
        int old = home;
        home = c;
        return old;
    }

    int change(int c, boolean may) {
        if (noCell(c)) {
            return UNKNOWN;
        }
        if (wet(c)) {
            return STATE;
        }
        if (may) {
            changing.add(c);
        } else {
            changing.remove(c);
        }
        return 1;
    }

    int boots(int b, int what, int v) {
        if (noBoots(b)) {
            return UNKNOWN;
        }
        if (what < 0 || what > 1 || v < 1 - what || v > (what == 0 ? 50 : 99)) {
            return OUTSIDE;
        }
        int[] row = what == 0 ? leagues : heels;
        int old = row[b];
        row[b] = v;
        return old;
    }

    int minutes(int which, int v) {
        if (which < 0 || which > 1 || v < 1 || v > 9) {
            return OUTSIDE;
        }
        int old = paces[which];
        paces[which] = v;
        return old;
    }

    int judge(int what) {
        if (what < 0 || what > 7) {
            return OUTSIDE;
        }
        if (fault(1) != NONE) {
            return NO;
        }
        int at = home;
        int on = 0;
        int count = 0;
        int[] worn = new int[4];
        for (int p = 0; p < pad.length() / 2; p++) {
            int d = pad.charAt(2 * p + 1) - '0';
            int why = 0;
            if (pad.charAt(2 * p) == '#') {
                if (d == on || !changing.contains(at)) {
                    why = 5;
                }
                on = d;
            } else {
                int column = pad.charAt(2 * p) - 'a';
                int to = d * columns + column;
                int wear = noCell(to) ? 0 : land.charAt(to) == '^' ? 2 : 1;
                if (column >= columns || d >= rows) {
                    why = 1;
                } else if (wet(to)) {
                    why = 2;
                } else if (!stride(leagues[on], at, to)) {
                    why = 3;
                } else if (worn[on] + wear > heels[on]) {
                    why = 4;
                }
                worn[on] += wear;
                at = to;
                count++;
            }
            if (why != 0) {
                return what == 0 ? p : what == 1 ? why : STATE;
            }
        }
        return what < 2 ? NONE : what == 2 ? at : what == 3 ? count : worn[what - 4];
    }

    private long leadsOf(int league, int c) {
        long set = 0;
        for (int d = 0; d < land.length(); d++) {
            if (stride(league, c, d)) {
                set += 1L << d;
            }
        }
        return set;
    }

    long leads(int b, int c) {
        return noBoots(b) || wet(c) ? GONE + UNKNOWN : leadsOf(leagues[b], c);
    }

    int strides(int b) {
        if (noBoots(b)) {
            return UNKNOWN;
        }
        int n = 0;
        for (int i = 0; i < 101 * 101; i++) {
            int r = i / 101 - 50;
            int c = i % 101 - 50;
            n += r * r + c * c == leagues[b] ? 1 : 0;
        }
        return n;
    }

    /** All pairs, by way of each CELL in turn. */
    private int[][] allPairs(int league, int stridePrice, int hillPrice, int stepPrice) {
        int n = land.length();
        int[][] d = new int[n][n];
        for (int a = 0; a < n; a++) {
            Arrays.fill(d[a], NEVER);
            for (int b = 0; b < n; b++) {
                if (!wet(a) && stride(league, a, b)) {
                    d[a][b] = land.charAt(b) == '^' ? hillPrice : stridePrice;
                }
                if (stepPrice > 0 && !wet(a) && stride(1, a, b)) {
                    d[a][b] = Math.min(d[a][b], stepPrice);
                }
            }
            d[a][a] = 0;
        }
        closeAll(d);
        return d;
    }

    private static void closeAll(int[][] d) {
        int n = d.length;
        for (int k = 0; k < n; k++) {
            for (int a = 0; a < n; a++) {
                for (int b = 0; b < n; b++) {
                    d[a][b] = Math.min(d[a][b], d[a][k] + d[k][b]);
                }
            }
        }
    }

    private static int orNone(int d) {
        return d >= NEVER ? NONE : d;
    }

    int far(int b, int from, int to, int i) {
        if (noBoots(b) || wet(from) || wet(to)) {
            return UNKNOWN;
        }
        int[][] d = allPairs(leagues[b], 1, 1, 0);
        if (d[from][to] >= NEVER) {
            return NONE;
        }
        if (i == -1) {
            return d[from][to];
        }
        List<Integer> way = new ArrayList<>();
        int at = from;
        while (at != to) {
            int next = 0;
            while (d[at][next] != 1 || d[next][to] != d[at][to] - 1) {
                next++;
            }
            way.add(next);
            at = next;
        }
        return i >= 0 && i < way.size() ? way.get(i) : NONE;
    }

    long reached(int b, int from) {
        if (noBoots(b) || wet(from)) {
            return GONE + UNKNOWN;
        }
        int[][] d = allPairs(leagues[b], 1, 1, 0);
        long set = 0;
        for (int c = 0; c < land.length(); c++) {
            set |= d[from][c] < NEVER ? 1L << c : 0;
        }
        return set;
    }

    int worn(int b, int from, int to) {
        if (noBoots(b) || wet(from) || wet(to)) {
            return UNKNOWN;
        }
        return orNone(allPairs(leagues[b], 1, 2, 0)[from][to]);
    }

    int time(int b, int from, int to) {
        if (noBoots(b) || wet(from) || wet(to)) {
            return UNKNOWN;
        }
        return orNone(allPairs(leagues[b], paces[0], paces[0], paces[1])[from][to]);
    }

    int changed(int b, int other, int from, int to, int what) {
        if (noBoots(b) || noBoots(other) || b == other || wet(from) || wet(to)) {
            return UNKNOWN;
        }
        if (what != 0 && what != 1) {
            return OUTSIDE;
        }
        int n = land.length();
        int[][] d = new int[2 * n][2 * n];
        for (int p = 0; p < 2 * n; p++) {
            Arrays.fill(d[p], NEVER);
            d[p][p] = 0;
            for (int q = 0; q < n; q++) {
                int league = p < n ? leagues[b] : leagues[other];
                if (!wet(p % n) && stride(league, p % n, q)) {
                    d[p][p / n * n + q] = 4096;
                }
            }
            if (changing.contains(p % n)) {
                d[p][(p + n) % (2 * n)] = 1;
            }
        }
        closeAll(d);
        int best = Math.min(d[from][to], d[from][n + to]);
        return best >= NEVER ? NONE : what == 0 ? best / 4096 : best % 4096;
    }

    private boolean badSet(long set) {
        for (int c = 0; c < 64; c++) {
            if ((set >>> c & 1) != 0 && wet(c)) {
                return true;
            }
        }
        return false;
    }

    private static void orders(List<Integer> begun, List<Integer> left, List<List<Integer>> all) {
        if (left.isEmpty()) {
            all.add(begun);
        }
        for (int k = 0; k < left.size(); k++) {
            List<Integer> more = new ArrayList<>(begun);
            more.add(left.get(k));
            List<Integer> rest = new ArrayList<>(left);
            rest.remove(k);
            orders(more, rest, all);
        }
    }

    int errands(int b, long set, int i) {
        if (noBoots(b)) {
            return UNKNOWN;
        }
        if (badSet(set)) {
            return OUTSIDE;
        }
        List<Integer> cells = new ArrayList<>();
        for (int c = 0; c < 36; c++) {
            if ((set >> c & 1) != 0) {
                cells.add(c);
            }
        }
        if (cells.size() > 5) {
            return FULL;
        }
        List<List<Integer>> all = new ArrayList<>();
        orders(new ArrayList<>(), cells, all);
        int[][] d = allPairs(leagues[b], 1, 1, 0);
        int best = NEVER;
        List<Integer> first = null;
        for (List<Integer> order : all) {
            int sum = 0;
            int at = home;
            for (int c : order) {
                sum += d[at][c];
                at = c;
            }
            sum += d[at][home];
            if (sum < best) {
                best = sum;
                first = order;
            }
        }
        if (best >= NEVER) {
            return NONE;
        }
        return i == -1 ? best : i >= 0 && i < first.size() ? first.get(i) : NONE;
    }

    private int peopleThere() {
        int n = 0;
        for (int[] p : people) {
            n += p == null ? 0 : 1;
        }
        return n;
    }

    int person(int p, int c, int b) {
        if (p < 0 || p > 3 || wet(c) || noBoots(b)) {
            return UNKNOWN;
        }
        people[p] = new int[] {c, b};
        return peopleThere();
    }

    int leave(int p) {
        if (p < 0 || p > 3 || people[p] == null) {
            return UNKNOWN;
        }
        people[p] = null;
        return peopleThere();
    }

    int meet(int what) {
        if (what != 0 && what != 1) {
            return OUTSIDE;
        }
        if (peopleThere() == 0) {
            return STATE;
        }
        int best = NEVER;
        int cell = NONE;
        for (int c = 0; c < land.length(); c++) {
            int most = 0;
            for (int[] p : people) {
                if (p != null) {
                    most = Math.max(most, allPairs(leagues[p[1]], 1, 1, 0)[p[0]][c]);
                }
            }
            if (most < best) {
                best = most;
                cell = c;
            }
        }
        return what == 0 ? orNone(best) : cell;
    }

    int made(long set, int w, int what) {
        if (badSet(set) || w < 0 || w > 35 || what < 0 || what > 1) {
            return OUTSIDE;
        }
        List<Integer> fit = new ArrayList<>();
        for (int league = 1; league <= 50; league++) {
            int[][] d = allPairs(league, 1, 1, 0);
            boolean all = true;
            for (int c = 0; c < land.length(); c++) {
                all &= (set >> c & 1) == 0 || d[home][c] <= w;
            }
            if (all) {
                fit.add(league);
            }
        }
        return what == 0 ? fit.size() : fit.isEmpty() ? NONE : fit.get(0);
    }

    int seen(int mark, int square) {
        if (noCell(mark)) {
            return UNKNOWN;
        }
        if (square < 0 || square > 50) {
            return OUTSIDE;
        }
        if (sights.size() == 8) {
            return FULL;
        }
        sights.add(new int[] {mark, square});
        return sights.size();
    }

    int forget() {
        int n = sights.size();
        sights.clear();
        return n;
    }

    long where() {
        long set = 0;
        for (int c = 0; c < land.length(); c++) {
            boolean fits = !wet(c);
            for (int[] s : sights) {
                fits &= square(c, s[0]) == s[1];
            }
            set |= fits ? 1L << c : 0;
        }
        return set;
    }

    int ask(int what) {
        if (what != 0 && what != 1) {
            return OUTSIDE;
        }
        long set = where();
        int best = 99;
        int least = -9;
        for (int mark = 0; mark < land.length(); mark++) {
            int most = 0;
            for (int told = 0; told <= 50; told++) {
                int left = 0;
                for (int c = 0; c < land.length(); c++) {
                    left += (set >> c & 1) != 0 && square(mark, c) == told ? 1 : 0;
                }
                most = Math.max(most, left);
            }
            if (most < best) {
                best = most;
                least = mark;
            }
        }
        return what == 0 ? least : best;
    }

    long after(int b, int from, int n) {
        if (noBoots(b) || noCell(from)) {
            return GONE + UNKNOWN;
        }
        if (n < 0 || n > 12) {
            return GONE + OUTSIDE;
        }
        long set = 0;
        for (int c = 0; c < land.length(); c++) {
            set |= ways(b, from, c, n) > 0 ? 1L << c : 0;
        }
        return set;
    }

    /** By a table of ways, multiplied n times. */
    long ways(int b, int from, int to, int n) {
        if (noBoots(b) || noCell(from) || noCell(to)) {
            return GONE + UNKNOWN;
        }
        if (n < 0 || n > 12) {
            return GONE + OUTSIDE;
        }
        int cells = land.length();
        long[] back = new long[cells];
        back[to] = 1;
        for (int k = 0; k < n; k++) {
            long[] more = new long[cells];
            for (int a = 0; a < cells; a++) {
                for (int c = 0; c < cells; c++) {
                    more[a] += stride(leagues[b], a, c) ? back[c] : 0;
                }
            }
            back = more;
        }
        return back[from];
    }

    long chance(int b, int from, int to, int n, int part) {
        if (noBoots(b) || noCell(from) || noCell(to)) {
            return GONE + UNKNOWN;
        }
        if (n < 0 || n > 5 || part < 0 || part > 1) {
            return GONE + OUTSIDE;
        }
        BigInteger[] f = likely(leagues[b], from, to, n);
        BigInteger g = f[0].gcd(f[1]);
        return f[part].divide(g).longValueExact();
    }

    /** Every course of n STRIDES for itself, as fractions. */
    private BigInteger[] likely(int league, int from, int to, int n) {
        if (n == 0) {
            return new BigInteger[] {from == to ? BigInteger.ONE : BigInteger.ZERO, BigInteger.ONE};
        }
        long goals = leadsOf(league, from);
        if (goals == 0) {
            return likely(league, from, to, n - 1);
        }
        BigInteger up = BigInteger.ZERO;
        BigInteger low = BigInteger.ONE;
        for (int c = 0; c < land.length(); c++) {
            if ((goals >> c & 1) != 0) {
                BigInteger[] f = likely(league, c, to, n - 1);
                up = up.multiply(f[1]).add(f[0].multiply(low));
                low = low.multiply(f[1]);
                BigInteger g = up.gcd(low);
                up = up.divide(g);
                low = low.divide(g);
            }
        }
        return new BigInteger[] {up, low.multiply(BigInteger.valueOf(Long.bitCount(goals)))};
    }

    /** Rounds for the GUARD to move, bettered till nothing changes. */
    private int[][] rounds(int guardLeague, int thiefLeague) {
        int n = land.length();
        int[][] v = new int[n][n];
        for (int g = 0; g < n; g++) {
            for (int t = 0; t < n; t++) {
                v[g][t] = g == t ? 0 : NEVER;
            }
        }
        boolean moved = true;
        while (moved) {
            moved = false;
            for (int g = 0; g < n; g++) {
                for (int t = 0; t < n; t++) {
                    if (g == t || wet(g) || wet(t)) {
                        continue;
                    }
                    int best = NEVER;
                    for (int to = 0; to < n; to++) {
                        if (to == g || stride(guardLeague, g, to)) {
                            best = Math.min(best, 1 + behind(v, thiefLeague, to, t));
                        }
                    }
                    if (best < v[g][t]) {
                        v[g][t] = best;
                        moved = true;
                    }
                }
            }
        }
        return v;
    }

    /** Rounds more, the THIEF being to move. */
    private int behind(int[][] v, int thiefLeague, int g, int t) {
        if (g == t) {
            return 0;
        }
        int most = 0;
        for (int to = 0; to < land.length(); to++) {
            if (to == t || stride(thiefLeague, t, to)) {
                most = Math.max(most, v[g][to]);
            }
        }
        return most;
    }

    int guard(int b, int c, int thief, int w, int what) {
        if (noBoots(b) || wet(c) || noBoots(thief) || wet(w)) {
            return UNKNOWN;
        }
        if (what != 0 && what != 1) {
            return OUTSIDE;
        }
        int[][] v = rounds(leagues[b], leagues[thief]);
        if (what == 0) {
            return orNone(v[c][w]);
        }
        if (c == w || v[c][w] >= NEVER) {
            return NONE;
        }
        int to = 0;
        while (to != c && !stride(leagues[b], c, to) || 1 + behind(v, leagues[thief], to, w) != v[c][w]) {
            to++;
        }
        return to;
    }

    int posts(int b, int which) {
        if (noBoots(b)) {
            return UNKNOWN;
        }
        if (which != 0 && which != 1) {
            return OUTSIDE;
        }
        if (land.length() > 16) {
            return FULL;
        }
        long[] serves = new long[land.length()];
        long dry = 0;
        for (int c = 0; c < land.length(); c++) {
            serves[c] = leadsOf(leagues[b], c) | 1L << c;
            dry |= wet(c) ? 0 : 1L << c;
        }
        int best = 0;
        int few = 99;
        for (int set = 0; set < 1 << land.length(); set++) {
            if ((set & ~dry) != 0 || Integer.bitCount(set) >= few) {
                continue;
            }
            long got = 0;
            for (int c = 0; c < land.length(); c++) {
                got |= (set >> c & 1) != 0 ? serves[c] : 0;
            }
            if ((got & dry) == dry) {
                best = set;
                few = Integer.bitCount(set);
            }
        }
        return which == 0 ? few : best;
    }

    int year(int b, int seed, int n, int what) {
        if (noBoots(b)) {
            return UNKNOWN;
        }
        if (seed < 0 || seed > 9999 || n < 1 || n > 99 || what < 0 || what > 2) {
            return OUTSIDE;
        }
        long x = seed;
        int at = home;
        int homes = 0;
        TreeSet<Integer> been = new TreeSet<>();
        been.add(at);
        for (int k = 0; k < n; k++) {
            x = (75 * x + 74) % 65537;
            List<Integer> goals = new ArrayList<>();
            for (int c = 0; c < land.length(); c++) {
                if (stride(leagues[b], at, c)) {
                    goals.add(c);
                }
            }
            at = goals.isEmpty() ? at : goals.get((int) (x % goals.size()));
            been.add(at);
            homes += at == home ? 1 : 0;
        }
        return what == 0 ? at : what == 1 ? been.size() : homes;
    }

    private void takeAllButPad(Model m) {
        rows = m.rows;
        columns = m.columns;
        land = m.land;
        home = m.home;
        changing = new TreeSet<>(m.changing);
        leagues = m.leagues.clone();
        heels = m.heels.clone();
        paces = m.paces.clone();
        people = m.people.clone();
        sights = new ArrayList<>(m.sights);
    }

    int image(int n) {
        if (n != 0 && n != 1) {
            return OUTSIDE;
        }
        images[n] = new Model();
        images[n].takeAllButPad(this);
        return 1;
    }

    int restore(int n) {
        if (n != 0 && n != 1) {
            return OUTSIDE;
        }
        if (images[n] == null) {
            return STATE;
        }
        takeAllButPad(images[n]);
        return 1;
    }

    int told(int what) {
        int bits = 0;
        for (int p = 0; p < 4; p++) {
            bits += people[p] == null ? 0 : 1 << p;
            if (people[p] != null && (what == 30 + 10 * p || what == 31 + 10 * p)) {
                return people[p][what % 10];
            }
            if (what == 10 + p) {
                return leagues[p];
            }
            if (what == 20 + p) {
                return heels[p];
            }
        }
        int[] first = {pad.length(), rows, columns, home, paces[0], paces[1], bits, sights.size(), changing.size()};
        return what >= 0 && what < first.length ? first[what] : OUTSIDE;
    }
}
