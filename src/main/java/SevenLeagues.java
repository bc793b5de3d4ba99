import java.util.Arrays;

/**
 * Boots of seven leagues: lands of cells told as small texts, boots whose strides are sums of two squares,
 * walks, ways, sights, chances, guards, posts and years. DOC.md says what every call promises.
 *
 * All rows are made in the constructor and used again, so that no call makes an object.
 */
public final class SevenLeagues {
    public static final int UNKNOWN = -1, OUTSIDE = -2, STATE = -3, FULL = -4, NO = -5, NONE = -6;
    public static final long GONE = -1000000000000000000L;

    private static final int MOST_SIDE = 6, MOST_CELLS = 36, MOST_SIGNS = 60;
    private static final int BOOTS = 4, PEOPLE = 4, MOST_SIGHTS = 8, IMAGES = 2;
    private static final int MOST_LEAGUES = 50, MOST_HEELS = 99, MOST_SQUARE = 50, MOST_MINUTES = 9;
    private static final int MOST_ERRANDS = 5, MOST_POST_CELLS = 16, MOST_WITHIN = 35;
    private static final int MOST_AFTER = 12, MOST_CHANCE = 5, MOST_SEED = 9999, MOST_YEAR = 99;

    /** Dearer than all changes of a way together, so that STRIDES count first. */
    private static final int DEAR_STRIDE = 1000;

    private static final int PLAIN = '.', HILL = '^', SEA = '~', CHANGE = '#';

    private static final int NO_SUCH_CELL = 1, IS_SEA = 2, NO_STRIDE = 3, WORN_OUT = 4, NO_CHANGE = 5;

    /** The whole root of 0 to 25, or -1: no CELL is more than 5 ROWS or COLUMNS off. */
    private static final int[] ROOT = {0, 1, -1, -1, 2, -1, -1, -1, -1, 3, -1, -1, -1,
        -1, -1, -1, 4, -1, -1, -1, -1, -1, -1, -1, -1, 5};

    private final Pad pad = new Pad();
    private final Scene now = new Scene();
    private final Scene[] kept = new Scene[IMAGES];
    private final boolean[] isKept = new boolean[IMAGES];
    private final Walk walk = new Walk();
    private final Roads roads = new Roads();
    private final Trips trips = new Trips();
    private final Round round = new Round();
    private final Odds odds = new Odds();
    private final Chase chase = new Chase();
    private final Posts watch = new Posts();
    private final int[] tally = new int[MOST_SQUARE + 1];

    public SevenLeagues() {
        for (int n = 0; n < IMAGES; n++) {
            kept[n] = new Scene();
        }
    }

    // ---- 1 lands, boots, walks

    public int land(int rows, int columns) {
        if (!within(rows, 1, MOST_SIDE) || !within(columns, 1, MOST_SIDE)) {
            return OUTSIDE;
        }
        now.makePlain(rows, columns);
        return now.size();
    }

    public int say(int sign) {
        if (!within(sign, 33, 126)) {
            return OUTSIDE;
        }
        if (pad.count >= MOST_SIGNS) {
            return FULL;
        }
        pad.signs[pad.count] = sign;
        pad.count++;
        return pad.count;
    }

    public int wipe() {
        int count = pad.count;
        pad.count = 0;
        return count;
    }

    public int fault(int how) {
        if (!within(how, 0, 1)) {
            return OUTSIDE;
        }
        return how == 0 ? pad.faultOfLand(now.size()) : pad.faultOfWalk();
    }

    public int lay() {
        if (pad.faultOfLand(now.size()) != NONE) {
            return NO;
        }
        if (!pad.tellsDry()) {
            return STATE;
        }
        now.takeSigns(pad.signs);
        pad.count = 0;
        return Long.bitCount(now.dry);
    }

    public int cell(int cell) {
        return now.hasCell(cell) ? now.signs[cell] : UNKNOWN;
    }

    public int home(int cell) {
        if (!now.hasCell(cell)) {
            return UNKNOWN;
        }
        if (!now.isDry(cell)) {
            return STATE;
        }
        int before = now.home;
        now.home = cell;
        return before;
    }

    public int change(int cell, boolean may) {
        if (!now.hasCell(cell)) {
            return UNKNOWN;
        }
        if (!now.isDry(cell)) {
            return STATE;
        }
        now.changing = may ? now.changing | bit(cell) : now.changing & ~bit(cell);
        return 1;
    }

    public int boots(int boots, int what, int v) {
        if (!isBoots(boots)) {
            return UNKNOWN;
        }
        if (what == 0 && within(v, 1, MOST_LEAGUES)) {
            return put(now.leagues, boots, v);
        }
        if (what == 1 && within(v, 0, MOST_HEELS)) {
            return put(now.heels, boots, v);
        }
        return OUTSIDE;
    }

    public int minutes(int which, int v) {
        if (!within(which, 0, 1) || !within(v, 1, MOST_MINUTES)) {
            return OUTSIDE;
        }
        return put(now.paces, which, v);
    }

    // ---- 2 strides

    public int judge(int what) {
        if (!within(what, 0, 7)) {
            return OUTSIDE;
        }
        if (pad.faultOfWalk() != NONE) {
            return NO;
        }
        walk.follow(now, pad);
        if (what >= 2 && walk.part != NONE) {
            return STATE;
        }
        switch (what) {
            case 0: return walk.part;
            case 1: return walk.why;
            case 2: return walk.at;
            case 3: return walk.taken;
            default: return walk.wear[what - 4];
        }
    }

    public long leads(int boots, int cell) {
        if (!isBoots(boots) || !now.isDry(cell)) {
            return GONE + UNKNOWN;
        }
        return now.reach(now.leagues[boots], cell);
    }

    public int strides(int boots) {
        if (!isBoots(boots)) {
            return UNKNOWN;
        }
        int ways = 0;
        for (int r = -7; r <= 7; r++) {
            for (int c = -7; c <= 7; c++) {
                if (r * r + c * c == now.leagues[boots]) {
                    ways++;
                }
            }
        }
        return ways;
    }

    // ---- 3 ways

    public int far(int boots, int from, int to, int i) {
        if (!canTravel(boots, from, to)) {
            return UNKNOWN;
        }
        int leagues = now.leagues[boots];
        roads.measure(now, leagues, to);
        int strides = roads.count[from];
        if (i == -1 || strides == NONE) {
            return strides;
        }
        if (i < 0 || i >= strides) {
            return NONE;
        }
        return roads.follow(now, leagues, from, i + 1);
    }

    public long reached(int boots, int from) {
        if (!canTravel(boots, from, from)) {
            return GONE + UNKNOWN;
        }
        return roads.measure(now, now.leagues[boots], from);
    }

    public int worn(int boots, int from, int to) {
        if (!canTravel(boots, from, to)) {
            return UNKNOWN;
        }
        trips.price(1, 1, 0, 0);
        trips.wear(now.leagues[boots], 0);
        return trips.cheapest(now, from, to);
    }

    public int changed(int boots, int other, int from, int to, int what) {
        if (!canTravel(boots, from, to) || !isBoots(other) || other == boots) {
            return UNKNOWN;
        }
        if (!within(what, 0, 1)) {
            return OUTSIDE;
        }
        trips.price(DEAR_STRIDE, 0, 0, 1);
        trips.wear(now.leagues[boots], now.leagues[other]);
        int price = trips.cheapest(now, from, to);
        if (price == NONE) {
            return NONE;
        }
        return what == 0 ? price / DEAR_STRIDE : price % DEAR_STRIDE;
    }

    public int time(int boots, int from, int to) {
        if (!canTravel(boots, from, to)) {
            return UNKNOWN;
        }
        trips.price(now.paces[0], 0, now.paces[1], 0);
        trips.wear(now.leagues[boots], 0);
        return trips.cheapest(now, from, to);
    }

    public int errands(int boots, long set, int i) {
        if (!isBoots(boots)) {
            return UNKNOWN;
        }
        if ((set & ~now.dry) != 0) {
            return OUTSIDE;
        }
        if (Long.bitCount(set) > MOST_ERRANDS) {
            return FULL;
        }
        round.plan(now, roads, now.leagues[boots], set);
        if (i == -1 || round.best == NONE) {
            return round.best;
        }
        return i >= 0 && i < round.many ? round.place[round.bestOrder[i]] : NONE;
    }

    public int person(int person, int cell, int boots) {
        if (!within(person, 0, PEOPLE - 1) || !now.isDry(cell) || !isBoots(boots)) {
            return UNKNOWN;
        }
        now.people |= 1 << person;
        now.personCell[person] = cell;
        now.personBoots[person] = boots;
        return Integer.bitCount(now.people);
    }

    public int leave(int person) {
        if (!now.isThere(person)) {
            return UNKNOWN;
        }
        now.people &= ~(1 << person);
        return Integer.bitCount(now.people);
    }

    public int meet(int what) {
        if (!within(what, 0, 1)) {
            return OUTSIDE;
        }
        if (now.people == 0) {
            return STATE;
        }
        int cell = roads.meeting(now);
        if (cell == NONE) {
            return NONE;
        }
        return what == 0 ? roads.most[cell] : cell;
    }

    public int made(long set, int w, int what) {
        if ((set & ~now.dry) != 0 || !within(w, 0, MOST_WITHIN) || !within(what, 0, 1)) {
            return OUTSIDE;
        }
        int many = 0;
        int least = NONE;
        for (int leagues = 1; leagues <= MOST_LEAGUES; leagues++) {
            if ((set & ~roads.nearby(now, leagues, now.home, w)) == 0) {
                many++;
                least = least == NONE ? leagues : least;
            }
        }
        return what == 0 ? many : least;
    }

    // ---- 4 where, chances, guards

    public int seen(int mark, int square) {
        if (!now.hasCell(mark)) {
            return UNKNOWN;
        }
        if (!within(square, 0, MOST_SQUARE)) {
            return OUTSIDE;
        }
        if (now.sights >= MOST_SIGHTS) {
            return FULL;
        }
        now.marks[now.sights] = mark;
        now.squares[now.sights] = square;
        now.sights++;
        return now.sights;
    }

    public int forget() {
        int count = now.sights;
        now.sights = 0;
        return count;
    }

    public long where() {
        return now.fitting();
    }

    public int ask(int what) {
        if (!within(what, 0, 1)) {
            return OUTSIDE;
        }
        long fitting = now.fitting();
        int least = 0;
        int fewest = MOST_CELLS + 1;
        for (int mark = 0; mark < now.size(); mark++) {
            int left = mostLeft(fitting, mark);
            if (left < fewest) {
                fewest = left;
                least = mark;
            }
        }
        return what == 0 ? least : fewest;
    }

    public long after(int boots, int from, int n) {
        if (!isBoots(boots) || !now.hasCell(from)) {
            return GONE + UNKNOWN;
        }
        if (!within(n, 0, MOST_AFTER)) {
            return GONE + OUTSIDE;
        }
        long set = bit(from);
        for (int stride = 0; stride < n; stride++) {
            set = now.reachFromAll(now.leagues[boots], set);
        }
        return set;
    }

    public long ways(int boots, int from, int to, int n) {
        if (!isBoots(boots) || !now.hasCell(from) || !now.hasCell(to)) {
            return GONE + UNKNOWN;
        }
        if (!within(n, 0, MOST_AFTER)) {
            return GONE + OUTSIDE;
        }
        odds.begin(now, now.leagues[boots], from, 1);
        for (int stride = 0; stride < n; stride++) {
            odds.strideAllWays();
        }
        return odds.weight[to];
    }

    public long chance(int boots, int from, int to, int n, int part) {
        if (!isBoots(boots) || !now.hasCell(from) || !now.hasCell(to)) {
            return GONE + UNKNOWN;
        }
        if (!within(n, 0, MOST_CHANCE) || !within(part, 0, 1)) {
            return GONE + OUTSIDE;
        }
        long whole = 1;
        for (int stride = 0; stride < n; stride++) {
            whole *= Odds.SHARES;
        }
        odds.begin(now, now.leagues[boots], from, whole);
        for (int stride = 0; stride < n; stride++) {
            odds.strideByLot();
        }
        long common = commonDivisor(odds.weight[to], whole);
        if (common == 0) {
            return 0;
        }
        return (part == 0 ? odds.weight[to] : whole) / common;
    }

    public int guard(int boots, int cell, int thief, int where, int what) {
        if (!isBoots(boots) || !now.isDry(cell) || !isBoots(thief) || !now.isDry(where)) {
            return UNKNOWN;
        }
        if (!within(what, 0, 1)) {
            return OUTSIDE;
        }
        chase.begin(now, now.leagues[boots], now.leagues[thief]);
        chase.hunt(cell, where);
        return what == 0 ? chase.rounds : chase.first;
    }

    public int posts(int boots, int which) {
        if (!isBoots(boots)) {
            return UNKNOWN;
        }
        if (!within(which, 0, 1)) {
            return OUTSIDE;
        }
        if (now.size() > MOST_POST_CELLS) {
            return FULL;
        }
        int set = watch.fewest(now, now.leagues[boots]);
        return which == 0 ? Integer.bitCount(set) : set;
    }

    public int year(int boots, int seed, int n, int what) {
        if (!isBoots(boots)) {
            return UNKNOWN;
        }
        if (!within(seed, 0, MOST_SEED) || !within(n, 1, MOST_YEAR) || !within(what, 0, 2)) {
            return OUTSIDE;
        }
        int x = seed;
        int at = now.home;
        long been = bit(at);
        int homes = 0;
        for (int stride = 0; stride < n; stride++) {
            x = (75 * x + 74) % 65537;
            at = drawn(now.reach(now.leagues[boots], at), x, at);
            been |= bit(at);
            homes += at == now.home ? 1 : 0;
        }
        if (what == 0) {
            return at;
        }
        return what == 1 ? Long.bitCount(been) : homes;
    }

    public int image(int n) {
        if (!within(n, 0, IMAGES - 1)) {
            return OUTSIDE;
        }
        kept[n].copy(now);
        isKept[n] = true;
        return 1;
    }

    public int restore(int n) {
        if (!within(n, 0, IMAGES - 1)) {
            return OUTSIDE;
        }
        if (!isKept[n]) {
            return STATE;
        }
        now.copy(kept[n]);
        return 1;
    }

    public int told(int what) {
        if (within(what, 10, 10 + BOOTS - 1)) {
            return now.leagues[what - 10];
        }
        if (within(what, 20, 20 + BOOTS - 1)) {
            return now.heels[what - 20];
        }
        if (what >= 30) {
            return toldOfPerson((what - 30) / 10, (what - 30) % 10);
        }
        switch (what) {
            case 0: return pad.count;
            case 1: return now.rows;
            case 2: return now.columns;
            case 3: return now.home;
            case 4: return now.paces[0];
            case 5: return now.paces[1];
            case 6: return now.people;
            case 7: return now.sights;
            case 8: return Long.bitCount(now.changing);
            default: return OUTSIDE;
        }
    }

    // ---- what the calls share

    private int toldOfPerson(int person, int what) {
        if (!now.isThere(person) || !within(what, 0, 1)) {
            return OUTSIDE;
        }
        return what == 0 ? now.personCell[person] : now.personBoots[person];
    }

    private boolean canTravel(int boots, int from, int to) {
        return isBoots(boots) && now.isDry(from) && now.isDry(to);
    }

    /** How many of the CELLS are left at the most, whichever square the MARK tells. */
    private int mostLeft(long fitting, int mark) {
        Arrays.fill(tally, 0);
        int most = 0;
        for (int cell = 0; cell < now.size(); cell++) {
            if (has(fitting, cell)) {
                int square = now.squareBetween(mark, cell);
                if (within(square, 0, MOST_SQUARE)) {
                    tally[square]++;
                    most = Math.max(most, tally[square]);
                }
            }
        }
        return most;
    }

    private static int put(int[] row, int place, int v) {
        if (!within(place, 0, row.length - 1)) {
            return UNKNOWN;
        }
        int before = row[place];
        row[place] = v;
        return before;
    }

    /** The CELL of the set that the draw x falls on, or where one is, if the set is empty. */
    private static int drawn(long set, int x, int at) {
        int many = Long.bitCount(set);
        if (many == 0) {
            return at;
        }
        int left = x % many;
        for (int cell = 0; cell < MOST_CELLS; cell++) {
            if (has(set, cell)) {
                if (left == 0) {
                    return cell;
                }
                left--;
            }
        }
        return at;
    }

    private static long commonDivisor(long a, long b) {
        // Each turn at least halves one number in two, so a long is done far below 200 turns.
        for (int turn = 0; turn < 200 && b != 0; turn++) {
            long rest = a % b;
            a = b;
            b = rest;
        }
        return a;
    }

    private static boolean within(int v, int least, int most) {
        return v >= least && v <= most;
    }

    private static boolean isBoots(int boots) {
        return within(boots, 0, BOOTS - 1);
    }

    private static long bit(int cell) {
        return 1L << cell;
    }

    private static boolean has(long set, int cell) {
        return (set >>> cell & 1L) != 0;
    }

    private static int leastOf(long set) {
        for (int cell = 0; cell < MOST_CELLS; cell++) {
            if (has(set, cell)) {
                return cell;
            }
        }
        return NONE;
    }

    /** The PAD: signs that may be read as a LAND or as a WALK. */
    private static final class Pad {
        final int[] signs = new int[MOST_SIGNS];
        int count;

        int faultOfLand(int cells) {
            for (int i = 0; i < count && i < cells; i++) {
                if (signs[i] != PLAIN && signs[i] != HILL && signs[i] != SEA) {
                    return i;
                }
            }
            return count == cells ? NONE : Math.min(count, cells);
        }

        int faultOfWalk() {
            for (int i = 0; i < count; i++) {
                boolean stands = i % 2 == 0 ? startsPart(signs[i]) : endsPart(signs[i - 1], signs[i]);
                if (!stands) {
                    return i;
                }
            }
            return count % 2 == 0 ? NONE : count;
        }

        boolean tellsDry() {
            for (int i = 0; i < count; i++) {
                if (signs[i] != SEA) {
                    return true;
                }
            }
            return false;
        }

        private static boolean startsPart(int sign) {
            return sign == CHANGE || within(sign, 'a', 'f');
        }

        private static boolean endsPart(int first, int sign) {
            return within(sign, '0', first == CHANGE ? '3' : '5');
        }
    }

    /** All that an IMAGE keeps: the LAND, and what stands on it or is told of it. */
    private static final class Scene {
        int rows, columns, home, people, sights;
        long dry, changing;
        final int[] signs = new int[MOST_CELLS];
        final int[] rowOf = new int[MOST_CELLS];
        final int[] columnOf = new int[MOST_CELLS];
        final int[] leagues = new int[BOOTS];
        final int[] heels = new int[BOOTS];
        final int[] paces = new int[2];
        final int[] personCell = new int[PEOPLE];
        final int[] personBoots = new int[PEOPLE];
        final int[] marks = new int[MOST_SIGHTS];
        final int[] squares = new int[MOST_SIGHTS];

        Scene() {
            for (int b = 0; b < BOOTS; b++) {
                leagues[b] = b + 1;
                heels[b] = MOST_HEELS;
            }
            paces[0] = 1;
            paces[1] = 3;
            makePlain(4, 4);
        }

        void makePlain(int newRows, int newColumns) {
            rows = newRows;
            columns = newColumns;
            for (int r = 0; r < rows; r++) {
                for (int c = 0; c < columns; c++) {
                    int cell = r * columns + c;
                    signs[cell] = PLAIN;
                    rowOf[cell] = r;
                    columnOf[cell] = c;
                }
            }
            settle();
        }

        void takeSigns(int[] told) {
            for (int cell = 0; cell < size() && cell < told.length; cell++) {
                signs[cell] = told[cell];
            }
            settle();
        }

        /** Whatever stood on an earlier LAND goes. */
        private void settle() {
            dry = 0;
            for (int cell = 0; cell < size(); cell++) {
                if (signs[cell] != SEA) {
                    dry |= bit(cell);
                }
            }
            home = Math.max(0, leastOf(dry));
            changing = 0;
            people = 0;
            sights = 0;
        }

        void copy(Scene other) {
            rows = other.rows;
            columns = other.columns;
            home = other.home;
            people = other.people;
            sights = other.sights;
            dry = other.dry;
            changing = other.changing;
            System.arraycopy(other.signs, 0, signs, 0, MOST_CELLS);
            System.arraycopy(other.rowOf, 0, rowOf, 0, MOST_CELLS);
            System.arraycopy(other.columnOf, 0, columnOf, 0, MOST_CELLS);
            System.arraycopy(other.leagues, 0, leagues, 0, BOOTS);
            System.arraycopy(other.heels, 0, heels, 0, BOOTS);
            System.arraycopy(other.paces, 0, paces, 0, 2);
            System.arraycopy(other.personCell, 0, personCell, 0, PEOPLE);
            System.arraycopy(other.personBoots, 0, personBoots, 0, PEOPLE);
            System.arraycopy(other.marks, 0, marks, 0, MOST_SIGHTS);
            System.arraycopy(other.squares, 0, squares, 0, MOST_SIGHTS);
        }

        int size() {
            return rows * columns;
        }

        boolean hasCell(int cell) {
            return within(cell, 0, size() - 1);
        }

        boolean isDry(int cell) {
            return hasCell(cell) && has(dry, cell);
        }

        boolean isThere(int person) {
            return within(person, 0, PEOPLE - 1) && (people >> person & 1) != 0;
        }

        int wearAt(int cell) {
            return signs[cell] == HILL ? 2 : 1;
        }

        int squareBetween(int a, int b) {
            int r = rowOf[a] - rowOf[b];
            int c = columnOf[a] - columnOf[b];
            return r * r + c * c;
        }

        /** The CELLS, no sea, that are off by this square. */
        long reach(int square, int cell) {
            long set = 0;
            for (int r = 0; r < rows; r++) {
                int down = r - rowOf[cell];
                int rest = square - down * down;
                if (rest >= 0 && rest < ROOT.length && ROOT[rest] >= 0) {
                    set |= at(r, columnOf[cell] - ROOT[rest]) | at(r, columnOf[cell] + ROOT[rest]);
                }
            }
            return set & dry;
        }

        long reachFromAll(int square, long from) {
            long set = 0;
            for (int cell = 0; cell < size(); cell++) {
                if (has(from, cell)) {
                    set |= reach(square, cell);
                }
            }
            return set;
        }

        private long at(int row, int column) {
            return column >= 0 && column < columns ? 1L << row * columns + column : 0;
        }

        long fitting() {
            long set = dry;
            for (int s = 0; s < sights; s++) {
                set &= reach(squares[s], marks[s]);
            }
            return set;
        }
    }

    /** A WALK judged: its first PART that can not be, or how it went. */
    private static final class Walk {
        int part, why, at, on, taken;
        final int[] wear = new int[BOOTS];

        void follow(Scene scene, Pad pad) {
            part = NONE;
            why = NONE;
            at = scene.home;
            on = 0;
            taken = 0;
            Arrays.fill(wear, 0);
            for (int i = 0; i + 1 < pad.count; i += 2) {
                int first = pad.signs[i];
                int digit = pad.signs[i + 1] - '0';
                int reason = first == CHANGE ? putOn(scene, digit) : stride(scene, first - 'a', digit);
                if (reason != 0) {
                    part = i / 2;
                    why = reason;
                    return;
                }
            }
        }

        private int putOn(Scene scene, int boots) {
            if (!isBoots(boots) || boots == on || !has(scene.changing, at)) {
                return NO_CHANGE;
            }
            on = boots;
            return 0;
        }

        private int stride(Scene scene, int column, int row) {
            if (!within(column, 0, scene.columns - 1) || !within(row, 0, scene.rows - 1)) {
                return NO_SUCH_CELL;
            }
            int to = row * scene.columns + column;
            if (!scene.isDry(to)) {
                return IS_SEA;
            }
            if (scene.squareBetween(at, to) != scene.leagues[on]) {
                return NO_STRIDE;
            }
            if (wear[on] + scene.wearAt(to) > scene.heels[on]) {
                return WORN_OUT;
            }
            wear[on] += scene.wearAt(to);
            taken++;
            at = to;
            return 0;
        }
    }

    /** How many STRIDES it is from one CELL to each other one. */
    private static final class Roads {
        /** Of each CELL, or NONE, as far as the last measuring went. */
        final int[] count = new int[MOST_CELLS];
        /** Of each CELL: the most STRIDES of any one of the PEOPLE, or NONE. */
        final int[] most = new int[MOST_CELLS];

        long measure(Scene scene, int leagues, int from) {
            return nearby(scene, leagues, from, MOST_CELLS);
        }

        /** Measures as far as so many STRIDES go: the CELLS met. */
        long nearby(Scene scene, int leagues, int from, int strides) {
            Arrays.fill(count, NONE);
            long front = bit(from);
            long met = front;
            for (int n = 0; n <= MOST_CELLS && n <= strides && front != 0; n++) {
                mark(scene, front, n);
                met |= front;
                front = n < strides ? scene.reachFromAll(leagues, front) & ~met : 0;
            }
            return met;
        }

        private void mark(Scene scene, long front, int n) {
            for (int cell = 0; cell < scene.size(); cell++) {
                if (has(front, cell)) {
                    count[cell] = n;
                }
            }
        }

        /** Where the first way by CELLS is behind so many STRIDES towards the CELL measured from. */
        int follow(Scene scene, int leagues, int from, int strides) {
            int at = from;
            for (int n = 0; n < MOST_CELLS && n < strides; n++) {
                at = nextTowards(scene.reach(leagues, at), count[at] - 1, at);
            }
            return at;
        }

        private int nextTowards(long set, int left, int at) {
            for (int cell = 0; cell < MOST_CELLS; cell++) {
                if (has(set, cell) && count[cell] == left) {
                    return cell;
                }
            }
            return at;
        }

        /** The least CELL to which all PEOPLE come soonest, or NONE. */
        int meeting(Scene scene) {
            Arrays.fill(most, 0);
            for (int person = 0; person < PEOPLE; person++) {
                if (scene.isThere(person)) {
                    measure(scene, scene.leagues[scene.personBoots[person]], scene.personCell[person]);
                    keepMost(scene);
                }
            }
            int best = NONE;
            for (int cell = 0; cell < scene.size(); cell++) {
                if (most[cell] != NONE && (best == NONE || most[cell] < most[best])) {
                    best = cell;
                }
            }
            return best;
        }

        private void keepMost(Scene scene) {
            for (int cell = 0; cell < scene.size(); cell++) {
                boolean never = most[cell] == NONE || count[cell] == NONE;
                most[cell] = never ? NONE : Math.max(most[cell], count[cell]);
            }
        }
    }

    /** Cheapest trips: a place is a CELL, and behind all CELLS once more a CELL with the other BOOTS on. */
    private static final class Trips {
        private static final int NEVER = 1000000;
        private final int[] cost = new int[2 * MOST_CELLS];
        /** 1: nothing cheaper can come. */
        private final int[] settled = new int[2 * MOST_CELLS];
        private final int[] leagues = new int[2];
        private int perStride, onHill, perStep, perChange;

        /** What a STRIDE costs, what more on a hill, a step (0: none are made), a change (0: likewise). */
        void price(int stride, int hill, int step, int exchange) {
            perStride = stride;
            onHill = hill;
            perStep = step;
            perChange = exchange;
        }

        void wear(int first, int other) {
            leagues[0] = first;
            leagues[1] = other;
        }

        int cheapest(Scene scene, int from, int to) {
            Arrays.fill(cost, NEVER);
            Arrays.fill(settled, 0);
            cost[from] = 0;
            for (int n = 0; n < cost.length; n++) {
                int place = nearest();
                if (place == NONE) {
                    break;
                }
                settled[place] = 1;
                goOn(scene, place);
            }
            int price = Math.min(cost[to], cost[MOST_CELLS + to]);
            return price == NEVER ? NONE : price;
        }

        private int nearest() {
            int best = NONE;
            for (int place = 0; place < cost.length; place++) {
                boolean open = settled[place] == 0 && cost[place] != NEVER;
                if (open && (best == NONE || cost[place] < cost[best])) {
                    best = place;
                }
            }
            return best;
        }

        private void goOn(Scene scene, int place) {
            int side = place < MOST_CELLS ? 0 : 1;
            int base = side * MOST_CELLS;
            int cell = place - base;
            long byStride = scene.reach(leagues[side], cell);
            long byStep = perStep > 0 ? scene.reach(1, cell) : 0;
            for (int to = 0; to < scene.size(); to++) {
                if (has(byStride, to)) {
                    int hill = scene.signs[to] == HILL ? onHill : 0;
                    offer(base + to, cost[place] + perStride + hill);
                }
                if (has(byStep, to)) {
                    offer(base + to, cost[place] + perStep);
                }
            }
            if (perChange > 0 && has(scene.changing, cell)) {
                offer((1 - side) * MOST_CELLS + cell, cost[place] + perChange);
            }
        }

        private void offer(int place, int price) {
            cost[place] = Math.min(cost[place], price);
        }
    }

    /** ERRANDS: the best order of a few CELLS, from HOME and back. */
    private static final class Round {
        private static final int WIDE = MOST_ERRANDS + 1;
        /** The CELLS rising; behind them HOME. */
        final int[] place = new int[WIDE];
        final int[] bestOrder = new int[MOST_ERRANDS];
        int many, best;
        private final int[] order = new int[MOST_ERRANDS];
        private final int[] between = new int[WIDE * WIDE];

        /** Finds the order; best is NONE, if some CELL is never reached. The set has at most five CELLS. */
        void plan(Scene scene, Roads roads, int leagues, long set) {
            many = 0;
            for (int cell = 0; cell < scene.size(); cell++) {
                if (has(set, cell) && many < MOST_ERRANDS) {
                    place[many] = cell;
                    many++;
                }
            }
            place[many] = scene.home;
            best = NONE;
            for (int a = 0; a <= many; a++) {
                long met = roads.measure(scene, leagues, place[a]);
                if ((set & ~met) != 0) {
                    return;
                }
                for (int b = 0; b <= many; b++) {
                    between[a * WIDE + b] = roads.count[place[b]];
                }
            }
            tryOrders(this, 0, many, 0, 0);
        }

        /** Orders come rising, and only a shorter one is taken: so the first by CELLS stays. */
        private static void tryOrders(Round round, int depth, int last, int used, int strides) {
            if (depth >= round.many || depth >= MOST_ERRANDS) {
                round.keepIfShorter(strides + round.between[last * WIDE + round.many]);
                return;
            }
            for (int k = 0; k < round.many; k++) {
                if ((used >> k & 1) == 0) {
                    round.order[depth] = k;
                    int more = round.between[last * WIDE + k];
                    tryOrders(round, depth + 1, k, used | 1 << k, strides + more);
                }
            }
        }

        private void keepIfShorter(int strides) {
            if (best == NONE || strides < best) {
                best = strides;
                System.arraycopy(order, 0, bestOrder, 0, MOST_ERRANDS);
            }
        }
    }

    /** Weights of CELLS behind some STRIDES: in how many ways one is there, or by which share. */
    private static final class Odds {
        /** Divided by each number to 8: no more STRIDES lead from a CELL of a LAND six by six. */
        static final long SHARES = 840;
        long[] weight = new long[MOST_CELLS];
        private long[] next = new long[MOST_CELLS];
        private final long[] goals = new long[MOST_CELLS];
        private int size;

        void begin(Scene scene, int leagues, int from, long whole) {
            size = scene.size();
            Arrays.fill(weight, 0);
            weight[from] = whole;
            for (int cell = 0; cell < size; cell++) {
                goals[cell] = scene.reach(leagues, cell);
            }
        }

        void strideAllWays() {
            Arrays.fill(next, 0);
            for (int cell = 0; cell < size; cell++) {
                hand(cell, weight[cell]);
            }
            swap();
        }

        void strideByLot() {
            Arrays.fill(next, 0);
            for (int cell = 0; cell < size; cell++) {
                int many = Long.bitCount(goals[cell]);
                if (many == 0) {
                    next[cell] += weight[cell];
                } else {
                    hand(cell, weight[cell] / many);
                }
            }
            swap();
        }

        private void hand(int cell, long share) {
            for (int to = 0; to < size && share != 0; to++) {
                if (has(goals[cell], to)) {
                    next[to] += share;
                }
            }
        }

        private void swap() {
            long[] before = weight;
            weight = next;
            next = before;
        }
    }

    /** GUARD and THIEF: sets of the GUARD's CELLS for each CELL of the THIEF, grown round by round. */
    private static final class Chase {
        private final long[] guardGoals = new long[MOST_CELLS];
        private final long[] thiefGoals = new long[MOST_CELLS];
        /** The GUARD is to move and ends it within the rounds counted so far. */
        private final long[] caught = new long[MOST_CELLS];
        /** The THIEF is to move and can not flee from that, or it is over. */
        private final long[] cornered = new long[MOST_CELLS];
        private int size;
        int rounds, first;

        void begin(Scene scene, int guardLeagues, int thiefLeagues) {
            size = scene.size();
            for (int cell = 0; cell < size; cell++) {
                boolean dry = scene.isDry(cell);
                guardGoals[cell] = dry ? scene.reach(guardLeagues, cell) | bit(cell) : 0;
                thiefGoals[cell] = dry ? scene.reach(thiefLeagues, cell) | bit(cell) : 0;
                caught[cell] = dry ? bit(cell) : 0;
            }
        }

        void hunt(int guardCell, int thiefCell) {
            rounds = NONE;
            first = NONE;
            if (guardCell == thiefCell) {
                rounds = 0;
                return;
            }
            boolean grows = true;
            // Each round but the last adds one of the pairs of CELLS at least.
            for (int n = 1; n <= MOST_CELLS * MOST_CELLS && grows; n++) {
                corner();
                grows = close();
                if (has(caught[thiefCell], guardCell)) {
                    rounds = n;
                    first = leastOf(guardGoals[guardCell] & cornered[thiefCell]);
                    return;
                }
            }
        }

        private void corner() {
            for (int thief = 0; thief < size; thief++) {
                long all = -1L;
                for (int to = 0; to < size; to++) {
                    if (has(thiefGoals[thief], to)) {
                        all &= caught[to];
                    }
                }
                cornered[thief] = thiefGoals[thief] == 0 ? 0 : all | bit(thief);
            }
        }

        private boolean close() {
            boolean grows = false;
            for (int thief = 0; thief < size; thief++) {
                long from = 0;
                for (int cell = 0; cell < size; cell++) {
                    if (has(cornered[thief], cell)) {
                        from |= guardGoals[cell];
                    }
                }
                grows |= from != caught[thief];
                caught[thief] = from;
            }
            return grows;
        }
    }

    /** POSTS: the least of the smallest sets of CELLS, no sea, that serve all that is no sea. */
    private static final class Posts {
        private final int[] serves = new int[MOST_POST_CELLS];
        /** What the CELLS below each one, and itself, serve together. */
        private final int[] servedUpTo = new int[MOST_POST_CELLS];
        private int dry, widest;

        /** The LAND has at most 16 CELLS. */
        int fewest(Scene scene, int leagues) {
            int size = Math.min(scene.size(), MOST_POST_CELLS);
            dry = (int) scene.dry;
            widest = 0;
            int together = 0;
            for (int cell = 0; cell < size; cell++) {
                serves[cell] = scene.isDry(cell) ? (int) (scene.reach(leagues, cell) | bit(cell)) : 0;
                together |= serves[cell];
                servedUpTo[cell] = together;
                widest = Math.max(widest, Integer.bitCount(serves[cell]));
            }
            for (int many = 0; many <= size; many++) {
                int set = seek(this, size - 1, many, 0, 0);
                if (set != NONE) {
                    return set;
                }
            }
            return 0;
        }

        /** A higher CELL is first left out, then taken: so the first set found is the least. */
        private static int seek(Posts posts, int cell, int left, int served, int set) {
            int missing = posts.dry & ~served;
            if (missing == 0) {
                return set;
            }
            if (cell < 0 || cell >= MOST_POST_CELLS || posts.isHopeless(missing, cell, left)) {
                return NONE;
            }
            int without = seek(posts, cell - 1, left, served, set);
            if (without != NONE || posts.serves[cell] == 0) {
                return without;
            }
            return seek(posts, cell - 1, left - 1, served | posts.serves[cell], set | 1 << cell);
        }

        private boolean isHopeless(int missing, int cell, int left) {
            return Integer.bitCount(missing) > left * widest || (missing & ~servedUpTo[cell]) != 0;
        }
    }
}
