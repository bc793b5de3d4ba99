/** Promises 25 to 34: sights, ask, after, ways, chance, guard and thief, posts, years. */
public final class WhereTest {
    private static final int UNKNOWN = -1, OUTSIDE = -2, FULL = -4, NONE = -6;
    private static final long GONE = -1000000000000000000L;
    private static final Due due = new Due("WhereTest");

    public static void main(String[] args) {
        seenAndForget();
        where();
        ask();
        after();
        ways();
        chance();
        chanceByLargeNumbers();
        seaAsStart();
        guard();
        guardRefused();
        posts();
        postsRefused();
        year();
        due.end();
    }

    private static void seenAndForget() {
        SevenLeagues x = Due.on("..~/...");
        due.is("forget() of none", x.forget(), 0);
        due.is("seen(6, 0)", x.seen(6, 0), UNKNOWN);
        due.is("seen(-1, 51), both", x.seen(-1, 51), UNKNOWN);
        due.is("seen(0, -1)", x.seen(0, -1), OUTSIDE);
        due.is("seen(0, 51)", x.seen(0, 51), OUTSIDE);
        due.is("seen(2, 0), a MARK at sea", x.seen(2, 0), 1);
        for (int n = 2; n <= 8; n++) {
            due.is("seen, " + n, x.seen(0, n == 8 ? 50 : n), n);
        }
        due.is("seen, 9", x.seen(0, 0), FULL);
        due.is("seen, 9, outside", x.seen(0, 51), OUTSIDE);
        due.is("seen, 9, unknown", x.seen(9, 0), UNKNOWN);
        due.is("told(7)", x.told(7), 8);
        due.is("forget()", x.forget(), 8);
        due.is("told(7) then", x.told(7), 0);
        due.is("seen again", x.seen(0, 0), 1);
    }

    private static void where() {
        SevenLeagues x = Due.on(".^~./...~/....");
        due.is("where() of no SIGHT", x.where(), Due.set(0, 1, 3, 4, 5, 6, 8, 9, 10, 11));
        x.seen(5, 1);
        due.is("where(), one", x.where(), Due.set(1, 4, 6, 9));
        x.seen(2, 1);
        due.is("where(), a MARK at sea", x.where(), Due.set(1, 6));
        x.seen(1, 0);
        due.is("where(), on the MARK", x.where(), Due.set(1));
        x.seen(0, 7);
        due.is("where(), nowhere", x.where(), 0);
        x.forget();
        due.is("where(), forgotten", x.where(), Due.set(0, 1, 3, 4, 5, 6, 8, 9, 10, 11));
        x.seen(2, 0);
        due.is("where(), the MARK is sea", x.where(), 0);
    }

    private static void ask() {
        SevenLeagues x = new SevenLeagues();
        x.land(1, 6);
        // From an end all squares differ.
        due.is("ask(0), a row", x.ask(0), 0);
        due.is("ask(1), a row", x.ask(1), 1);
        x.land(3, 3);
        due.is("ask(0), three by three", x.ask(0), 0);
        due.is("ask(1), three by three", x.ask(1), 2);
        x.seen(4, 1);
        // 1, 3, 5 and 7 are left: a corner parts them into twos, a side's middle so, too.
        due.is("ask(0), four left", x.ask(0), 0);
        due.is("ask(1), four left", x.ask(1), 2);
        x.seen(0, 1);
        // 1 and 3: on the slant from 0 they are alike.
        due.is("ask(0), two left", x.ask(0), 1);
        due.is("ask(1), two left", x.ask(1), 1);
        x.seen(0, 7);
        due.is("ask(0), none left", x.ask(0), 0);
        due.is("ask(1), none left", x.ask(1), 0);
        due.is("ask(2)", x.ask(2), OUTSIDE);
        due.is("ask(-1)", x.ask(-1), OUTSIDE);
        x = Due.on("~.~.");
        due.is("ask(0), a MARK at sea", x.ask(0), 0);
        due.is("ask(1), a MARK at sea", x.ask(1), 1);
    }

    private static void after() {
        SevenLeagues x = Due.on("...~..");
        due.is("after none", x.after(0, 1, 0), Due.set(1));
        due.is("after 1", x.after(0, 1, 1), Due.set(0, 2));
        due.is("after 2", x.after(0, 1, 2), Due.set(1));
        due.is("after 11", x.after(0, 1, 11), Due.set(0, 2));
        due.is("after 12", x.after(3, 0, 12), Due.set(0, 4));
        due.is("after 1, no STRIDE", x.after(2, 0, 1), 0);
        due.is("after 12, no STRIDE", x.after(2, 0, 12), 0);
        due.is("after 13", x.after(0, 0, 13), GONE + OUTSIDE);
        due.is("after -1", x.after(0, 0, -1), GONE + OUTSIDE);
        due.is("after(4, 0, 1)", x.after(4, 0, 1), GONE + UNKNOWN);
        due.is("after(-1, 0, 1)", x.after(-1, 0, 1), GONE + UNKNOWN);
        due.is("after(0, 6, 13)", x.after(0, 6, 13), GONE + UNKNOWN);
        due.is("after(0, -1, 1)", x.after(0, -1, 1), GONE + UNKNOWN);
    }

    private static void ways() {
        SevenLeagues x = new SevenLeagues();
        due.is("ways in none", x.ways(0, 3, 3, 0), 1);
        due.is("ways in none elsewhere", x.ways(0, 3, 2, 0), 0);
        due.is("ways over a corner", x.ways(0, 0, 5, 2), 2);
        due.is("ways there and back", x.ways(0, 5, 5, 2), 4);
        due.is("ways, odd", x.ways(0, 0, 0, 11), 0);
        due.is("ways, no STRIDE", x.ways(2, 0, 0, 1), 0);
        x.land(1, 2);
        due.is("ways in twelve", x.ways(0, 0, 0, 12), 1);
        x.land(2, 2);
        due.is("ways about a square in twelve", x.ways(0, 0, 3, 12), 2048);
        due.is("ways, 13", x.ways(0, 0, 0, 13), GONE + OUTSIDE);
        due.is("ways, -1", x.ways(0, 0, 0, -1), GONE + OUTSIDE);
        due.is("ways(4, ..)", x.ways(4, 0, 0, 1), GONE + UNKNOWN);
        due.is("ways from 4", x.ways(0, 4, 0, 1), GONE + UNKNOWN);
        due.is("ways to 4", x.ways(0, 0, 4, 13), GONE + UNKNOWN);
        due.is("ways to -1", x.ways(0, 0, -1, 1), GONE + UNKNOWN);
    }

    private static void fraction(SevenLeagues x, int boots, int from, int to, int n, long upper, long lower) {
        String call = "chance(" + boots + ", " + from + ", " + to + ", " + n + ", ";
        due.is(call + "0)", x.chance(boots, from, to, n, 0), upper);
        due.is(call + "1)", x.chance(boots, from, to, n, 1), lower);
    }

    private static void chance() {
        SevenLeagues x = new SevenLeagues();
        fraction(x, 0, 0, 0, 0, 1, 1);
        fraction(x, 0, 0, 1, 0, 0, 1);
        fraction(x, 0, 0, 1, 1, 1, 2);
        fraction(x, 0, 1, 0, 1, 1, 3);
        fraction(x, 0, 5, 1, 1, 1, 4);
        // By 1 or by 4, each of which has three STRIDES.
        fraction(x, 0, 0, 5, 2, 1, 3);
        fraction(x, 0, 0, 2, 2, 1, 6);
        fraction(x, 0, 0, 0, 5, 0, 1);
        fraction(x, 2, 3, 3, 5, 1, 1);
        fraction(x, 2, 3, 2, 5, 0, 1);
        due.is("chance, n = 6", x.chance(0, 0, 0, 6, 0), GONE + OUTSIDE);
        due.is("chance, n = -1", x.chance(0, 0, 0, -1, 0), GONE + OUTSIDE);
        due.is("chance, part = 2", x.chance(0, 0, 0, 1, 2), GONE + OUTSIDE);
        due.is("chance, part = -1", x.chance(0, 0, 0, 1, -1), GONE + OUTSIDE);
        due.is("chance(4, ..)", x.chance(4, 0, 0, 6, 2), GONE + UNKNOWN);
        due.is("chance from 16", x.chance(0, 16, 0, 1, 0), GONE + UNKNOWN);
        due.is("chance to 16", x.chance(0, 0, 16, 1, 0), GONE + UNKNOWN);
        due.is("chance to -1", x.chance(0, 0, -1, 1, 0), GONE + UNKNOWN);
    }

    /** Seven STRIDES lead from 14, by the sea at 1: the sevenths must stay whole. */
    private static void chanceByLargeNumbers() {
        SevenLeagues x = Due.on(".~..../....../....../....../....../......");
        x.boots(0, 0, 5);
        fraction(x, 0, 14, 3, 1, 1, 7);
        long upper = 0;
        long lower = 1;
        for (int to = 0; to < 36; to++) {
            if (x.cell(to) == '~') {
                continue;
            }
            long u = x.chance(0, 14, to, 5, 0);
            long l = x.chance(0, 14, to, 5, 1);
            java.math.BigInteger gcd = java.math.BigInteger.valueOf(u).gcd(java.math.BigInteger.valueOf(l));
            due.is("chance to " + to + " in lowest terms", gcd.longValue(), 1);
            long g = java.math.BigInteger.valueOf(lower).gcd(java.math.BigInteger.valueOf(l)).longValue();
            upper = upper * (l / g) + u * (lower / g);
            lower = lower / g * l;
        }
        due.is("all chances together", upper, lower);
    }

    /** These calls say UNKNOWN without "also sea", and a STRIDE leads from a CELL, whichever it is. */
    private static void seaAsStart() {
        SevenLeagues x = Due.on("~../...");
        due.is("after none at sea", x.after(0, 0, 0), Due.set(0));
        due.is("after one from sea", x.after(0, 0, 1), Due.set(1, 3));
        due.is("ways from sea", x.ways(0, 0, 4, 2), 2);
        due.is("ways to sea", x.ways(0, 1, 0, 1), 0);
        fraction(x, 0, 0, 1, 1, 1, 2);
        fraction(x, 0, 1, 0, 1, 0, 1);
    }

    private static void guard() {
        SevenLeagues x = new SevenLeagues();
        x.land(1, 6);
        due.is("guard, in one CELL", x.guard(0, 2, 0, 2, 0), 0);
        due.is("guard, in one CELL, first", x.guard(0, 2, 0, 2, 1), NONE);
        due.is("guard, beside", x.guard(0, 2, 0, 3, 0), 1);
        due.is("guard, beside, first", x.guard(0, 2, 0, 3, 1), 3);
        // The THIEF flees to the end of the row, then it is over.
        due.is("guard, to the end", x.guard(0, 0, 0, 2, 0), 5);
        due.is("guard, to the end, first", x.guard(0, 0, 0, 2, 1), 1);
        due.is("guard, the THIEF can not go", x.guard(0, 0, 2, 5, 0), 5);
        due.is("guard, never", x.guard(2, 0, 0, 5, 0), NONE);
        due.is("guard, never, first", x.guard(2, 0, 0, 5, 1), NONE);
        x.land(2, 2);
        due.is("guard, about a square never", x.guard(0, 0, 0, 3, 0), NONE);
        due.is("guard, about a square never, first", x.guard(0, 0, 0, 3, 1), NONE);
        due.is("guard, a slanting THIEF", x.guard(0, 0, 1, 3, 0), 2);
        due.is("guard, a slanting THIEF, first", x.guard(0, 0, 1, 3, 1), 1);
        // Four arms: from the middle the GUARD bars the only way out of each.
        x = Due.on("~.~~/..../~.~~");
        due.is("guard, a THIEF at the end of an arm", x.guard(0, 1, 0, 9, 0), 2);
        due.is("guard, goes to the middle", x.guard(0, 1, 0, 9, 1), 5);
    }

    private static void guardRefused() {
        SevenLeagues x = Due.on("..~/...");
        due.is("guard(4, ..)", x.guard(4, 0, 0, 1, 0), UNKNOWN);
        due.is("guard, cell 6", x.guard(0, 6, 0, 1, 0), UNKNOWN);
        due.is("guard, cell sea", x.guard(0, 2, 0, 1, 0), UNKNOWN);
        due.is("guard, thief 4", x.guard(0, 0, 4, 1, 0), UNKNOWN);
        due.is("guard, thief -1", x.guard(0, 0, -1, 1, 0), UNKNOWN);
        due.is("guard, where -1", x.guard(0, 0, 0, -1, 0), UNKNOWN);
        due.is("guard, where sea", x.guard(0, 0, 0, 2, 9), UNKNOWN);
        due.is("guard, what 2", x.guard(0, 0, 0, 1, 2), OUTSIDE);
        due.is("guard, what -1", x.guard(0, 0, 0, 0, -1), OUTSIDE);
    }

    private static void posts() {
        SevenLeagues x = new SevenLeagues();
        x.land(1, 6);
        due.is("posts of a row", x.posts(0, 0), 2);
        due.is("posts of a row, the set", x.posts(0, 1), Due.set(1, 4));
        due.is("posts, all alone", x.posts(2, 0), 6);
        due.is("posts, all alone, the set", x.posts(2, 1), 63);
        due.is("posts, by twos", x.posts(3, 1), Due.set(2, 3));
        x.land(1, 5);
        due.is("posts, the least of several", x.posts(0, 1), Due.set(0, 3));
        x.land(4, 4);
        due.is("posts of sixteen", x.posts(0, 0), 4);
        x = Due.on("..~/~../~~.");
        due.is("posts about a sea", x.posts(0, 0), 2);
        due.is("posts about a sea, the set", x.posts(0, 1), Due.set(0, 5));
        // From the sea in the middle one would see all four.
        x = Due.on("~.~/.~./~.~");
        due.is("posts are no sea", x.posts(0, 0), 4);
        due.is("posts are no sea, the set", x.posts(0, 1), Due.set(1, 3, 5, 7));
    }

    private static void postsRefused() {
        SevenLeagues x = new SevenLeagues();
        x.land(3, 6);
        due.is("posts of eighteen", x.posts(0, 0), FULL);
        due.is("posts, which 2", x.posts(0, 2), OUTSIDE);
        due.is("posts, which -1", x.posts(0, -1), OUTSIDE);
        due.is("posts(4, 9)", x.posts(4, 9), UNKNOWN);
        due.is("posts(-1, 0)", x.posts(-1, 0), UNKNOWN);
    }

    private static void year() {
        SevenLeagues x = new SevenLeagues();
        x.land(1, 3);
        // x: 74 (0 of one), 5624 (0 of two), 28653... from 0 on: 1, then 0 or 2.
        due.is("year, one STRIDE", x.year(0, 0, 1, 0), 1);
        due.is("year, one STRIDE, CELLS", x.year(0, 0, 1, 1), 2);
        due.is("year, one STRIDE, HOME", x.year(0, 0, 1, 2), 0);
        due.is("year, 5624 is even", x.year(0, 0, 2, 0), 0);
        due.is("year, 5624 is even, HOME", x.year(0, 0, 2, 2), 1);
        due.is("year, 11249 is odd", x.year(0, 1, 2, 0), 2);
        due.is("year, 11249 is odd, CELLS", x.year(0, 1, 2, 1), 3);
        due.is("year, a stay", x.year(2, 9999, 99, 0), 0);
        due.is("year, a stay, CELLS", x.year(2, 9999, 99, 1), 1);
        due.is("year, a stay, HOME", x.year(2, 9999, 99, 2), 99);
        x.home(2);
        due.is("year from another HOME", x.year(0, 0, 1, 0), 1);
        // 75 times 9999 and 74 are 749999, left over by 65537: 29092.
        x.land(2, 2);
        due.is("year, seed 9999", x.year(0, 9999, 1, 0), 1);
        due.is("year(4, ..)", x.year(4, -1, 0, 9), UNKNOWN);
        due.is("year(-1, ..)", x.year(-1, 0, 1, 0), UNKNOWN);
        due.is("year, seed -1", x.year(0, -1, 1, 0), OUTSIDE);
        due.is("year, seed 10000", x.year(0, 10000, 1, 0), OUTSIDE);
        due.is("year, n 0", x.year(0, 0, 0, 0), OUTSIDE);
        due.is("year, n 100", x.year(0, 0, 100, 0), OUTSIDE);
        due.is("year, what 3", x.year(0, 0, 1, 3), OUTSIDE);
        due.is("year, what -1", x.year(0, 0, 1, -1), OUTSIDE);
    }
}
