/** The sentences of the document that name a boundary, one by one: promises 25 to 37. */
public final class WhereBoundsTest {
    private static final int UNKNOWN = Due.UNKNOWN, OUTSIDE = Due.OUTSIDE, STATE = Due.STATE, FULL = Due.FULL, NONE = Due.NONE;
    private static final Due due = new Due("WhereBoundsTest");

    private static final String SNAKE = "....../~~~~~./....../.~~~~~/....../~~~~~.";

    public static void main(String[] args) {
        eightSights();
        squares0To50();
        whereEdges();
        askEdges();
        askLeast();
        afterEdges();
        waysEdges();
        chanceEdges();
        chanceInLowestTerms();
        guardEdges();
        guardLong();
        guardLeast();
        postsOf16();
        postsOfMore();
        postsFewest();
        yearEdges();
        yearDraws();
        imageEdges();
        imageKeepsAllButThePad();
        restoreAgain();
        toldEdges();
        due.end();
    }

    // ---- 25, 26 "SIGHTS, 8 at most", "a square (0 to 50)"

    private static void eightSights() {
        SevenLeagues x = new SevenLeagues();
        due.call(x, "none", 0, "forget");
        for (int turn = 0; turn < 2; turn++) {
            for (int n = 1; n <= 8; n++) {
                due.call(x, "one more", n, "seen", 5, 1);
                due.call(x, "one more", n, "told", 7);
            }
            due.call(x, "8 at most", FULL, "seen", 5, 1);
            due.call(x, "8 at most", FULL, "seen", 0, 50);
            due.call(x, "the ninth is none", Due.set(1, 4, 6, 9), "where");
            due.call(x, "they go", 8, "forget");
            due.call(x, "they are gone", 0, "forget");
            due.call(x, "they are gone", 65535, "where");
        }
        // The eighth counts like the others.
        for (int n = 0; n < 7; n++) {
            x.seen(5, 1);
        }
        x.seen(5, 2);
        due.call(x, "the eighth", 0, "where");
    }

    private static void squares0To50() {
        SevenLeagues x = new SevenLeagues();
        x.land(6, 6);
        for (int square = 0; square <= 50; square++) {
            long off = 0;
            for (int c = 0; c < 36; c++) {
                off |= (c / 6) * (c / 6) + (c % 6) * (c % 6) == square ? 1L << c : 0;
            }
            due.call(x, "a square", 1, "seen", 0, square);
            due.call(x, "off CELL 0 by " + square, off, "where");
            x.forget();
        }
    }

    // ---- 27 where: "CELLS, no sea, by which all SIGHTS hold"

    private static void whereEdges() {
        SevenLeagues x = Due.on("~./.~");
        due.call(x, "no SIGHTS", Due.set(1, 2), "where");
        x.seen(0, 0);
        due.call(x, "in a MARK of sea", 0, "where");
        x.forget();
        x.seen(0, 2);
        due.call(x, "at sea beyond", 0, "where");
        x.forget();
        x.seen(3, 1);
        due.call(x, "off a MARK of sea", Due.set(1, 2), "where");
        x.seen(1, 0);
        due.call(x, "in a MARK", Due.set(1), "where");
        x.seen(2, 0);
        due.call(x, "in two MARKS", 0, "where");
        x.land(6, 6);
        due.call(x, "all 36", (1L << 36) - 1, "where");
        x.seen(0, 50);
        due.call(x, "the last", 1L << 35, "where");
        x.seen(35, 0);
        due.call(x, "the last", 1L << 35, "where");
    }

    // ---- 28 ask

    private static void askEdges() {
        SevenLeagues x = new SevenLeagues();
        x.land(1, 1);
        due.call(x, "one CELL", 0, "ask", 0);
        due.call(x, "one CELL", 1, "ask", 1);
        x.seen(0, 1);
        due.call(x, "none is left", 0, "ask", 0);
        due.call(x, "none is left", 0, "ask", 1);
        x.land(6, 6);
        x.seen(35, 0);
        due.call(x, "one is left", 0, "ask", 0);
        due.call(x, "one is left", 1, "ask", 1);
        x.land(1, 6);
        due.call(x, "from the end all differ", 0, "ask", 0);
        due.call(x, "from the end all differ", 1, "ask", 1);
        x.forget();
        x.seen(3, 4);
        due.call(x, "1 and 5", 0, "ask", 0);
        due.call(x, "1 and 5", 1, "ask", 1);
    }

    /** "whatever square it tells, the fewest CELLS of those are left at the most: the least". */
    private static void askLeast() {
        SevenLeagues x = new SevenLeagues();
        x.land(6, 6);
        // From the corner four CELLS are off by 25; from CELL 1 never more than three are alike.
        due.call(x, "36 CELLS", 1, "ask", 0);
        due.call(x, "36 CELLS", 3, "ask", 1);
        x.land(3, 3);
        x.seen(4, 2);
        // Four corners: each corner parts them 1, 2, 1, a side's middle 2, 2.
        due.call(x, "four corners", 0, "ask", 0);
        due.call(x, "four corners", 2, "ask", 1);
        x = Due.on("~~~/.~./~~~");
        due.call(x, "a MARK of sea asks, too", 0, "ask", 0);
        due.call(x, "a MARK of sea asks, too", 1, "ask", 1);
        x = Due.on("~.~/~~~/~.~");
        due.call(x, "above it", 0, "ask", 0);
        due.call(x, "above it", 1, "ask", 1);
        x.land(6, 1);
        x.seen(2, 1);
        // 1 and 3: CELL 2 tells nothing, CELL 0 all.
        due.call(x, "CELL 0 tells them apart", 0, "ask", 0);
        due.call(x, "CELL 0 tells them apart", 1, "ask", 1);
    }

    // ---- 29, 30 "behind just n STRIDES (0 to 12)"

    private static void afterEdges() {
        SevenLeagues x = new SevenLeagues();
        x.land(2, 2);
        for (int n = 0; n <= 12; n++) {
            long even = n == 0 ? Due.set(0) : Due.set(0, 3);
            due.call(x, "about a square", n % 2 == 0 ? even : Due.set(1, 2), "after", 0, 0, n);
            due.call(x, "no STRIDE can be", n == 0 ? 1 : 0, "after", 2, 0, n);
        }
        x.land(6, 6);
        x.boots(0, 0, 50);
        due.call(x, "eleven times over", 1L << 35, "after", 0, 0, 11);
        due.call(x, "twelve times over", 1L << 35, "after", 0, 35, 12);
        due.call(x, "not a CELL on the way is left", 0, "after", 0, 1, 1);
        x.boots(0, 0, 1);
        due.is("twelve STRIDES are even", Long.bitCount(x.after(0, 0, 12)), 18);
        due.is("eleven STRIDES are odd", Long.bitCount(x.after(0, 0, 11)), 18);
    }

    private static void waysEdges() {
        SevenLeagues x = new SevenLeagues();
        x.land(2, 2);
        due.call(x, "no STRIDE: there", 1, "ways", 0, 3, 3, 0);
        due.call(x, "no STRIDE: elsewhere", 0, "ways", 0, 3, 0, 0);
        for (int n = 1; n <= 12; n++) {
            boolean odd = n % 2 == 1;
            due.call(x, "two ways at each CELL", odd ? 0 : 1L << n - 1, "ways", 0, 0, 3, n);
            due.call(x, "two ways at each CELL", odd ? 1L << n - 1 : 0, "ways", 0, 0, 1, n);
            due.call(x, "no STRIDE can be", 0, "ways", 2, 0, 0, n);
        }
        x.land(6, 6);
        due.call(x, "ten, five of them down", 252, "ways", 0, 0, 35, 10);
        due.call(x, "one STRIDE too few", 0, "ways", 0, 0, 35, 9);
        due.call(x, "just n, not fewer", 0, "ways", 0, 0, 35, 11);
        x.boots(0, 0, 50);
        due.call(x, "to and fro", 1, "ways", 0, 0, 0, 12);
    }

    // ---- 31 chance: "n STRIDES (0 to 5)", "where none can be, one stays", "in lowest terms"

    private static void fraction(SevenLeagues x, String why, long upper, long lower, int... call) {
        due.call(x, why, upper, "chance", call[0], call[1], call[2], call[3], 0);
        due.call(x, why, lower, "chance", call[0], call[1], call[2], call[3], 1);
    }

    private static void chanceEdges() {
        SevenLeagues x = new SevenLeagues();
        x.land(2, 2);
        fraction(x, "no STRIDE: there", 1, 1, 0, 3, 3, 0);
        fraction(x, "no STRIDE: elsewhere", 0, 1, 0, 3, 0, 0);
        for (int n = 1; n <= 5; n++) {
            boolean odd = n % 2 == 1;
            fraction(x, "about a square", odd ? 1 : 0, odd ? 2 : 1, 0, 0, 1, n);
            fraction(x, "about a square", odd ? 0 : 1, odd ? 1 : 2, 0, 0, 3, n);
            fraction(x, "one stays", 1, 1, 2, 1, 1, n);
            fraction(x, "one stays, nowhere else", 0, 1, 2, 1, 0, n);
        }
        x.land(1, 1);
        fraction(x, "one CELL", 1, 1, 0, 0, 0, 5);
        x.land(1, 2);
        fraction(x, "two CELLS", 1, 1, 0, 0, 1, 5);
        fraction(x, "two CELLS", 0, 1, 0, 0, 0, 5);
    }

    private static void chanceInLowestTerms() {
        SevenLeagues x = new SevenLeagues();
        x.land(1, 6);
        fraction(x, "always on", 1, 16, 0, 0, 5, 5);
        x.land(6, 6);
        fraction(x, "along the rim", 1, 162, 0, 0, 5, 5);
        fraction(x, "along the rim, four", 1, 54, 0, 0, 4, 4);
        // 0, 1 or 6, then one of three: 2, 0, 7 or 7, 0, 12.
        fraction(x, "two sixths", 1, 3, 0, 0, 7, 2);
        fraction(x, "back again", 1, 3, 0, 0, 0, 2);
        fraction(x, "straight on", 1, 6, 0, 0, 12, 2);
        x = Due.on(".~..../....../....../....../....../......");
        x.boots(0, 0, 5);
        fraction(x, "one of seven", 1, 7, 0, 14, 3, 1);
        fraction(x, "one of eight", 1, 8, 0, 15, 2, 1);
    }

    // ---- 32 guard: "ROUNDS till then (0: they are in one CELL); NONE: never"

    private static void guardEdges() {
        SevenLeagues x = new SevenLeagues();
        for (int b = 0; b < 4; b++) {
            due.call(x, "in one CELL", 0, "guard", b, 15, b, 15, 0);
            due.call(x, "in one CELL: it is over", NONE, "guard", b, 15, b, 15, 1);
        }
        due.call(x, "one STRIDE off", 1, "guard", 0, 14, 3, 15, 0);
        due.call(x, "one STRIDE off", 15, "guard", 0, 14, 3, 15, 1);
        due.call(x, "neither can stride", NONE, "guard", 2, 0, 2, 1, 0);
        due.call(x, "neither can stride", NONE, "guard", 2, 0, 2, 1, 1);
        // The THIEF could come to the GUARD, but stays away.
        due.call(x, "the GUARD can not stride", NONE, "guard", 2, 0, 0, 1, 0);
        due.call(x, "LEAGUES that never lead there", NONE, "guard", 1, 0, 2, 1, 0);
        x = Due.on(".~.");
        due.call(x, "sea between", NONE, "guard", 0, 0, 2, 2, 0);
        due.call(x, "sea between, over it", 1, "guard", 3, 0, 2, 2, 0);
        due.call(x, "sea between, over it", 2, "guard", 3, 0, 2, 2, 1);
        // The GUARD goes first: though the THIEF's next STRIDE would save it.
        x = Due.on("..../....");
        due.call(x, "the GUARD is first", 1, "guard", 0, 0, 0, 4, 0);
    }

    private static void guardLong() {
        SevenLeagues x = Due.on(SNAKE);
        due.call(x, "the THIEF can not stride", 20, "guard", 0, 0, 2, 35, 0);
        due.call(x, "the THIEF can not stride", 1, "guard", 0, 0, 2, 35, 1);
        due.call(x, "the THIEF flees to the end", 20, "guard", 0, 0, 0, 2, 0);
        due.call(x, "the THIEF flees to the end", 1, "guard", 0, 0, 0, 2, 1);
        due.call(x, "the THIEF is beside", 1, "guard", 0, 0, 0, 1, 0);
        due.call(x, "the THIEF flees the other way", 20, "guard", 0, 35, 0, 28, 0);
        due.call(x, "the THIEF is at the end", 20, "guard", 0, 0, 0, 35, 0);
        x.land(6, 6);
        due.call(x, "about any four CELLS the THIEF goes on", NONE, "guard", 0, 0, 0, 35, 0);
        due.call(x, "36 CELLS, the THIEF can not stride", 10, "guard", 0, 0, 2, 35, 0);
    }

    private static void guardLeast() {
        SevenLeagues x = new SevenLeagues();
        x.land(3, 3);
        due.call(x, "of 1 and 3 the least", 1, "guard", 0, 0, 2, 8, 1);
        due.call(x, "of 5 and 7 the least", 5, "guard", 0, 8, 2, 0, 1);
        due.call(x, "of 1, 3, 5, 7 the one", 7, "guard", 0, 4, 2, 7, 1);
        due.call(x, "of 1 and 5 the least", 1, "guard", 0, 4, 2, 2, 1);
    }

    // ---- 33 posts: "FULL: more than 16 CELLS"

    private static void postsOf16() {
        SevenLeagues x = new SevenLeagues();
        for (int rows = 1; rows <= 6; rows++) {
            for (int columns = 1; columns <= 6; columns++) {
                x.land(rows, columns);
                int cells = rows * columns;
                // BOOTS 2 never stride: each CELL is its own post.
                due.call(x, "of " + cells, cells > 16 ? FULL : cells, "posts", 2, 0);
                due.call(x, "of " + cells, cells > 16 ? FULL : (1 << cells) - 1, "posts", 2, 1);
            }
        }
    }

    /** All CELLS of the LAND are counted, those of sea, too. */
    private static void postsOfMore() {
        SevenLeagues x = new SevenLeagues();
        x.land(3, 6);
        Due.say(x, "." + "~".repeat(17));
        x.lay();
        due.call(x, "18 CELLS, most of them sea", FULL, "posts", 0, 0);
        x.land(4, 4);
        Due.say(x, "~".repeat(15) + ".");
        x.lay();
        due.call(x, "one CELL is no sea", 1, "posts", 0, 0);
        due.call(x, "one CELL is no sea", 1 << 15, "posts", 0, 1);
    }

    private static void postsFewest() {
        SevenLeagues x = new SevenLeagues();
        x.land(1, 2);
        due.call(x, "two beside", 1, "posts", 0, 0);
        due.call(x, "two beside, the least", 1, "posts", 0, 1);
        x.land(1, 3);
        due.call(x, "three in a row", 2, "posts", 0, 1);
        x.land(1, 4);
        due.call(x, "four in a row", 2, "posts", 0, 0);
        due.call(x, "four in a row, the least", Due.set(0, 2), "posts", 0, 1);
        x.land(2, 2);
        due.call(x, "a square", 2, "posts", 0, 0);
        due.call(x, "a square, the least", Due.set(0, 1), "posts", 0, 1);
        due.call(x, "a square, slanting", Due.set(0, 1), "posts", 1, 1);
        x.land(3, 3);
        due.call(x, "from the middle slanting, and the rest", 3, "posts", 1, 0);
        due.call(x, "from the middle slanting, and the rest", Due.set(1, 3, 4), "posts", 1, 1);
    }

    // ---- 34 year: "a seed (0 to 9999) of n STRIDES (1 to 99)"

    private static void yearEdges() {
        SevenLeagues x = new SevenLeagues();
        x.land(1, 2);
        x.home(1);
        for (int seed : new int[] {0, 9999}) {
            due.call(x, "to and fro", 0, "year", 0, seed, 1, 0);
            due.call(x, "to and fro", 2, "year", 0, seed, 1, 1);
            due.call(x, "to and fro", 0, "year", 0, seed, 1, 2);
            due.call(x, "to and fro", 0, "year", 0, seed, 99, 0);
            due.call(x, "to and fro", 1, "year", 0, seed, 98, 0);
            due.call(x, "to and fro", 2, "year", 0, seed, 99, 1);
            due.call(x, "to and fro", 49, "year", 0, seed, 99, 2);
            // HOME counts behind a STRIDE, not at the beginning; a stay counts, too.
            due.call(x, "a stay", 1, "year", 2, seed, 1, 0);
            due.call(x, "a stay", 1, "year", 2, seed, 1, 1);
            due.call(x, "a stay", 1, "year", 2, seed, 1, 2);
            due.call(x, "a stay", 99, "year", 2, seed, 99, 2);
            due.call(x, "a stay", 1, "year", 2, seed, 99, 1);
        }
        x.land(1, 1);
        due.call(x, "one CELL", 99, "year", 0, 5, 99, 2);
    }

    /** From the middle of three one goes down by an even draw, up by an odd one; from an end always back. */
    private static void yearDraws() {
        for (int seed : new int[] {0, 1, 873, 5000, 9998, 9999}) {
            SevenLeagues x = new SevenLeagues();
            x.land(3, 1);
            long draw = seed;
            int at = 0;
            int homes = 0;
            long been = 1;
            for (int n = 1; n <= 99; n++) {
                draw = (75 * draw + 74) % 65537;
                at = at != 1 ? 1 : draw % 2 == 0 ? 0 : 2;
                homes += at == 0 ? 1 : 0;
                been |= 1L << at;
                due.call(x, "drawn", at, "year", 0, seed, n, 0);
                due.call(x, "drawn", Long.bitCount(been), "year", 0, seed, n, 1);
                due.call(x, "drawn", homes, "year", 0, seed, n, 2);
            }
        }
    }

    // ---- 35, 36 "All but the PAD is kept in an IMAGE (0, 1)", "It is as it was when it was kept", "STATE: it was not"

    private static void imageEdges() {
        SevenLeagues x = new SevenLeagues();
        due.call(x, "was not kept", STATE, "restore", 0);
        due.call(x, "was not kept", STATE, "restore", 1);
        due.call(x, "kept", 1, "image", 1);
        due.call(x, "the other was not kept", STATE, "restore", 0);
        due.call(x, "was kept", 1, "restore", 1);
        due.call(x, "kept", 1, "image", 0);
        due.call(x, "was kept", 1, "restore", 0);
        x.home(4);
        x.image(0);
        x.home(5);
        x.image(0);
        x.home(6);
        x.restore(0);
        due.call(x, "the later one is kept", 5, "told", 3);
        x.restore(1);
        due.call(x, "the other stays", 0, "told", 3);
    }

    private static void imageKeepsAllButThePad() {
        SevenLeagues x = new SevenLeagues();
        x.land(6, 6);
        Due.say(x, "~" + "^".repeat(34) + ".");
        x.lay();
        x.home(35);
        x.change(34, true);
        x.boots(3, 0, 50);
        x.boots(3, 1, 0);
        x.minutes(0, 9);
        x.minutes(1, 9);
        x.person(3, 35, 3);
        x.seen(35, 50);
        for (int n = 0; n < 60; n++) {
            x.say('.');
        }
        x.image(0);
        x.wipe();
        x.say('a');
        x.land(1, 1);
        x.person(3, 0, 0);
        x.seen(0, 0);
        x.boots(3, 0, 1);
        x.boots(3, 1, 1);
        x.minutes(0, 1);
        x.minutes(1, 1);
        x.restore(0);
        due.call(x, "the PAD is as it is", 1, "told", 0);
        int[] numbers = {6, 6, 35, 9, 9, 8, 1, 1};
        for (int what = 1; what <= 8; what++) {
            due.call(x, "kept", numbers[what - 1], "told", what);
        }
        due.call(x, "kept", 50, "told", 13);
        due.call(x, "kept", 0, "told", 23);
        due.call(x, "kept", 35, "told", 60);
        due.call(x, "kept", 3, "told", 61);
        due.call(x, "kept", '~', "cell", 0);
        due.call(x, "kept", '^', "cell", 34);
        due.call(x, "kept", '.', "cell", 35);
        // The MARK and its square, which CELL 0 alone would fit, were it no sea.
        due.call(x, "kept", 0, "where");
        x.forget();
        due.call(x, "kept", (1L << 36) - 2, "where");
        due.call(x, "CHANGE is kept where it was", 1, "changed", 0, 3, 34, 34 - 6, 0);
        due.call(x, "no CELL behind the last", UNKNOWN, "cell", 36);
    }

    private static void restoreAgain() {
        SevenLeagues x = new SevenLeagues();
        x.image(0);
        for (int turn = 0; turn < 3; turn++) {
            x.land(6, 6);
            x.boots(0, 0, 9 + turn);
            x.seen(0, 0);
            due.call(x, "an IMAGE can be used again", 1, "restore", 0);
            due.call(x, "ROWS", 4, "told", 1);
            due.call(x, "LEAGUES", 1, "told", 10);
            due.call(x, "SIGHTS", 0, "told", 7);
            due.call(x, "the smaller LAND", UNKNOWN, "cell", 16);
            due.call(x, "the smaller LAND", 65535, "where");
            due.call(x, "the smaller LAND", Due.set(1, 4, 6, 9), "leads", 0, 5);
        }
        x.seen(5, 1);
        x.seen(0, 1);
        x.image(0);
        x.forget();
        x.seen(15, 0);
        x.seen(15, 0);
        x.restore(0);
        due.call(x, "SIGHTS as they were", Due.set(1, 4), "where");
        x.home(9);
        x.image(1);
        x.restore(0);
        due.call(x, "IMAGES are not kept in IMAGES", 1, "restore", 1);
        due.call(x, "IMAGES are not kept in IMAGES", 9, "told", 3);
    }

    // ---- 37 told

    private static void toldEdges() {
        SevenLeagues x = new SevenLeagues();
        int[] first = {0, 4, 4, 0, 1, 3, 0, 0, 0};
        for (int what = -3; what <= 75; what++) {
            long want = OUTSIDE;
            if (what >= 0 && what < first.length) {
                want = first[what];
            } else if (what >= 10 && what <= 13) {
                want = what - 9;
            } else if (what >= 20 && what <= 23) {
                want = 99;
            }
            due.call(x, "at first", want, "told", what);
        }
        for (int person = 0; person < 4; person++) {
            x.person(person, 10 + person, person);
        }
        for (int what = 30; what <= 75; what++) {
            int person = what / 10 - 3;
            boolean is = person < 4 && what % 10 < 2;
            due.call(x, "all are there", !is ? OUTSIDE : what % 10 == 0 ? 10 + person : person, "told", what);
        }
        due.call(x, "all are there", 15, "told", 6);
    }
}
