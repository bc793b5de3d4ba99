/**
 * Every LAND of up to four CELLS, and every one two by three of plain and sea: each call that goes by the LAND, for all CELLS
 * and a CELL too many, against the plain Model.
 */
public final class SmallLandsTest {
    private static final Due due = new Due("SmallLandsTest");
    private static final int[] LEAGUES = {1, 2, 4, 5};

    private final SevenLeagues x = new SevenLeagues();
    private final Model m = new Model();
    private final String land;
    private final int cells;

    private SmallLandsTest(int rows, int columns, String text) {
        land = rows + " by " + columns + " " + text + ": ";
        cells = rows * columns;
        x.land(rows, columns);
        m.land(rows, columns);
        for (int i = 0; i < text.length(); i++) {
            x.say(text.charAt(i));
            m.say(text.charAt(i));
        }
        due.is(land + "lay()", x.lay(), m.lay());
        for (int b = 0; b < LEAGUES.length; b++) {
            x.boots(b, 0, LEAGUES[b]);
            m.boots(b, 0, LEAGUES[b]);
        }
        x.minutes(0, 2);
        m.minutes(0, 2);
    }

    public static void main(String[] args) {
        for (int rows = 1; rows <= 4; rows++) {
            for (int columns = 1; rows * columns <= 4; columns++) {
                all(rows, columns, ".^~");
            }
        }
        all(2, 3, ".~");
        due.end();
    }

    private static void all(int rows, int columns, String signs) {
        int many = 1;
        for (int c = 0; c < rows * columns; c++) {
            many *= signs.length();
        }
        for (int number = 0; number < many && due.clean(); number++) {
            StringBuilder text = new StringBuilder();
            for (int rest = number; text.length() < rows * columns; rest /= signs.length()) {
                text.append(signs.charAt(rest % signs.length()));
            }
            new SmallLandsTest(rows, columns, text.toString()).ask();
        }
    }

    private void ask() {
        for (int c = 0; c <= cells; c++) {
            is(x.cell(c), m.cell(c), "cell", c);
            is(x.change(c, c % 2 == 0), m.change(c, c % 2 == 0), "change", c, (c + 1) % 2);
        }
        for (int b = 0; b < LEAGUES.length; b++) {
            is(x.posts(b, 0), m.posts(b, 0), "posts", b, 0);
            is(x.posts(b, 1), m.posts(b, 1), "posts", b, 1);
            for (int from = 0; from <= cells; from++) {
                fromOne(b, from);
                for (int to = 0; to <= cells; to++) {
                    ways(b, from, to);
                    chances(b, from, to);
                }
            }
            for (int set = 0; set < 1 << cells; set++) {
                sets(b, set);
            }
        }
        people();
        sights();
    }

    private void is(long got, long want, String name, long... values) {
        due.is(got == want ? "" : land + Due.row(name, values), got, want);
    }

    private void fromOne(int b, int from) {
        is(x.leads(b, from), m.leads(b, from), "leads", b, from);
        is(x.reached(b, from), m.reached(b, from), "reached", b, from);
        is(x.home(from), m.home(from), "home", from);
        for (int n = 0; n <= 4; n++) {
            is(x.after(b, from, n), m.after(b, from, n), "after", b, from, n);
            is(x.year(b, 7 + n, 5 + n, n % 3), m.year(b, 7 + n, 5 + n, n % 3), "year", b, 7 + n, 5 + n, n % 3);
        }
    }

    private void ways(int b, int from, int to) {
        is(x.worn(b, from, to), m.worn(b, from, to), "worn", b, from, to);
        is(x.time(b, from, to), m.time(b, from, to), "time", b, from, to);
        for (int i = -1; i <= cells; i++) {
            is(x.far(b, from, to, i), m.far(b, from, to, i), "far", b, from, to, i);
        }
        for (int other = 0; other < LEAGUES.length; other++) {
            for (int what = 0; what <= 1; what++) {
                is(x.changed(b, other, from, to, what), m.changed(b, other, from, to, what),
                    "changed", b, other, from, to, what);
                is(x.guard(b, from, other, to, what), m.guard(b, from, other, to, what),
                    "guard", b, from, other, to, what);
            }
        }
    }

    private void chances(int b, int from, int to) {
        for (int n = 0; n <= 5; n++) {
            is(x.ways(b, from, to, n), m.ways(b, from, to, n), "ways", b, from, to, n);
            for (int part = 0; part <= 1; part++) {
                is(x.chance(b, from, to, n, part), m.chance(b, from, to, n, part), "chance", b, from, to, n, part);
            }
        }
    }

    private void sets(int b, int set) {
        for (int i = -1; i <= cells; i++) {
            is(x.errands(b, set, i), m.errands(b, set, i), "errands", b, set, i);
        }
        if (b == 0) {
            for (int w = 0; w <= 3; w++) {
                is(x.made(set, w, w % 2), m.made(set, w, w % 2), "made", set, w, w % 2);
            }
        }
    }

    private void people() {
        for (int one = 0; one < cells; one++) {
            for (int two = 0; two < cells; two++) {
                int boots = (one + two) % 4;
                is(x.person(0, one, 0), m.person(0, one, 0), "person", 0, one, 0);
                is(x.person(3, two, boots), m.person(3, two, boots), "person", 3, two, boots);
                is(x.meet(0), m.meet(0), "meet", 0);
                is(x.meet(1), m.meet(1), "meet", 1);
            }
        }
    }

    private void sights() {
        for (int mark = 0; mark < cells; mark++) {
            for (int square = 0; square <= 5; square++) {
                x.forget();
                m.forget();
                is(x.seen(mark, square), m.seen(mark, square), "seen", mark, square);
                is(x.where(), m.where(), "where");
                is(x.ask(0), m.ask(0), "ask", 0);
                is(x.ask(1), m.ask(1), "ask", 1);
            }
        }
    }
}
