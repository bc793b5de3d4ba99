/** The sentences of the document that name a boundary, one by one: promises 15 to 24. */
public final class WayBoundsTest {
    private static final int STATE = Due.STATE, NONE = Due.NONE, OUTSIDE = Due.OUTSIDE, LOW = Due.LOW, HIGH = Due.HIGH;
    private static final Due due = new Due("WayBoundsTest");

    /** One way of 21 CELLS winds through the sea. */
    private static final String SNAKE = "....../~~~~~./....../.~~~~~/....../~~~~~.";
    private static final int[] SNAKE_WAY = {0, 1, 2, 3, 4, 5, 11, 17, 16, 15, 14, 13, 12, 18, 24, 25, 26, 27, 28, 29, 35};

    public static void main(String[] args) {
        farLong();
        farFirstByCells();
        farNone();
        reachedEdges();
        wornEdges();
        changedEnds();
        changedAtLeast();
        changedToAndFro();
        changedNone();
        hillsAreNoHindrance();
        timeEdges();
        timeDoesNotWrap();
        errandsOfNone();
        errandsOfFive();
        errandsOfHome();
        errandsNone();
        peopleEdges();
        meetEdges();
        meetLeastCell();
        madeEdges();
        madeAllCells();
        heelsDoNotCount();
        due.end();
    }

    // ---- 15 far: "how many (i = -1), the CELL behind the i-th STRIDE (from 0 on); NONE"

    private static void farLong() {
        SevenLeagues x = Due.on(SNAKE);
        due.call(x, "from end to end", 20, "far", 0, 0, 35, -1);
        for (int i = 0; i < 20; i++) {
            due.call(x, "the i-th STRIDE", SNAKE_WAY[i + 1], "far", 0, 0, 35, i);
            due.call(x, "the i-th STRIDE back", SNAKE_WAY[19 - i], "far", 0, 35, 0, i);
        }
        for (int i : new int[] {20, 21, 35, HIGH}) {
            due.call(x, "behind the last STRIDE", NONE, "far", 0, 0, 35, i);
        }
        for (int i : new int[] {-2, -21, LOW}) {
            due.call(x, "before how many", NONE, "far", 0, 0, 35, i);
        }
    }

    private static void farFirstByCells() {
        SevenLeagues x = new SevenLeagues();
        x.land(3, 3);
        int[] down = {1, 2, 5, 8};
        int[] up = {5, 2, 1, 0};
        int[] across = {1, 0, 3, 6};
        for (int i = 0; i < 4; i++) {
            due.call(x, "first by CELLS", down[i], "far", 0, 0, 8, i);
            due.call(x, "first by CELLS", up[i], "far", 0, 8, 0, i);
            due.call(x, "first by CELLS", across[i], "far", 0, 2, 6, i);
        }
        due.call(x, "one STRIDE", 4, "far", 0, 1, 4, 0);
        due.call(x, "one STRIDE", NONE, "far", 0, 1, 4, 1);
    }

    private static void farNone() {
        SevenLeagues x = Due.on(".~.");
        for (int i : new int[] {LOW, -2, -1, 0, 1, HIGH}) {
            due.call(x, "never reached", NONE, "far", 0, 0, 2, i);
            due.call(x, "never reached", NONE, "far", 1, 0, 2, i);
        }
        due.call(x, "from here to here", 0, "far", 0, 0, 0, -1);
        due.call(x, "from here to here, no STRIDE can be", 0, "far", 2, 2, 2, -1);
        for (int i : new int[] {LOW, -2, 0, 1, HIGH}) {
            due.call(x, "from here to here", NONE, "far", 0, 0, 0, i);
        }
        x.land(6, 6);
        x.boots(0, 0, 50);
        due.call(x, "50 LEAGUES", 1, "far", 0, 0, 35, -1);
        due.call(x, "50 LEAGUES", 35, "far", 0, 0, 35, 0);
        due.call(x, "50 LEAGUES", NONE, "far", 0, 0, 5, -1);
    }

    // ---- 16 reached: "itself, too"

    private static void reachedEdges() {
        SevenLeagues x = new SevenLeagues();
        x.land(1, 1);
        due.call(x, "one CELL", 1, "reached", 0, 0);
        x.land(6, 6);
        due.call(x, "all 36", (1L << 36) - 1, "reached", 0, 0);
        due.call(x, "all 36", (1L << 36) - 1, "reached", 0, 35);
        long alike = 0;
        long even = 0;
        for (int c = 0; c < 36; c++) {
            alike |= (c / 6 + c % 6) % 2 == 0 ? 1L << c : 0;
            even |= c / 6 % 2 == 0 && c % 6 % 2 == 0 ? 1L << c : 0;
        }
        due.call(x, "slanting", alike, "reached", 1, 35);
        due.call(x, "by twos", even, "reached", 3, 28);
        due.call(x, "no STRIDE", 1L << 35, "reached", 2, 35);
        x.boots(0, 0, 50);
        due.call(x, "50 LEAGUES", Due.set(0, 35), "reached", 0, 35);
        due.call(x, "50 LEAGUES", Due.set(34), "reached", 0, 34);
        due.is("a way of 21 CELLS", Due.on(SNAKE).reached(0, 18), Due.set(SNAKE_WAY));
    }

    // ---- 17 worn: "the least wear of all ways"

    private static void wornEdges() {
        SevenLeagues x = Due.on("^^^^^^");
        due.call(x, "hills alone", 10, "worn", 0, 0, 5);
        due.call(x, "hills alone", 2, "worn", 0, 0, 1);
        due.call(x, "from here to here", 0, "worn", 0, 0, 0);
        due.call(x, "no STRIDE", 0, "worn", 2, 3, 3);
        due.call(x, "no STRIDE", NONE, "worn", 2, 3, 4);
        x = Due.on(SNAKE.replace('.', '^'));
        due.call(x, "the longest way, hills", 40, "worn", 0, 0, 35);
        x = Due.on(SNAKE);
        due.call(x, "the longest way", 20, "worn", 0, 0, 35);
        // Two STRIDES over the hill wear 3, the four about it wear 4; over two hills they wear 5.
        due.is("one hill", Due.on(".^./...").worn(0, 0, 2), 3);
        due.is("one hill, way back", Due.on(".^./...").worn(0, 2, 0), 3);
        due.is("two hills and about", Due.on(".^^./....").worn(0, 0, 3), 5);
        due.is("three hills or about", Due.on(".^^^./.....").worn(0, 0, 4), 6);
    }

    // ---- 18 changed

    /** "told BOOTS on at first", "whichever are on at the end". */
    private static void changedEnds() {
        SevenLeagues x = new SevenLeagues();
        x.land(1, 6);
        for (int c = 0; c < 6; c++) {
            x.change(c, true);
        }
        due.call(x, "from here to here", 0, "changed", 0, 3, 2, 2, 0);
        due.call(x, "from here to here", 0, "changed", 0, 3, 2, 2, 1);
        due.call(x, "on at first", 2, "changed", 3, 0, 0, 4, 0);
        due.call(x, "on at first", 0, "changed", 3, 0, 0, 4, 1);
        due.call(x, "the others on at first", 2, "changed", 0, 3, 0, 4, 0);
        due.call(x, "the others on at first", 1, "changed", 0, 3, 0, 4, 1);
        due.call(x, "one STRIDE of each", 2, "changed", 0, 3, 0, 3, 0);
        due.call(x, "one STRIDE of each", 1, "changed", 0, 3, 0, 3, 1);
        due.call(x, "one STRIDE of each", 1, "changed", 3, 0, 0, 3, 1);
        due.call(x, "BOOTS alike", 4, "boots", 3, 0, 1);
        due.call(x, "BOOTS alike", 5, "changed", 0, 3, 0, 5, 0);
        due.call(x, "BOOTS alike", 0, "changed", 0, 3, 0, 5, 1);
    }

    /** "how often one must CHANGE, at least, by so few STRIDES". */
    private static void changedAtLeast() {
        SevenLeagues x = new SevenLeagues();
        x.land(1, 6);
        x.change(0, true);
        x.change(4, true);
        due.call(x, "at both ends", 3, "changed", 0, 3, 0, 5, 0);
        due.call(x, "at both ends", 2, "changed", 0, 3, 0, 5, 1);
        x.change(1, true);
        due.call(x, "once is enough", 3, "changed", 0, 3, 0, 5, 0);
        due.call(x, "once is enough", 1, "changed", 0, 3, 0, 5, 1);
        x.change(0, false);
        x.change(1, false);
        due.call(x, "too late to help", 5, "changed", 0, 3, 0, 5, 0);
        due.call(x, "fewer STRIDES count before fewer changes", 0, "changed", 0, 3, 0, 5, 1);
        x.change(5, true);
        due.call(x, "where it ends it is no use", 0, "changed", 0, 3, 0, 5, 1);
    }

    private static void changedToAndFro() {
        SevenLeagues x = Due.on(".~..~.");
        x.change(0, true);
        x.change(2, true);
        x.change(3, true);
        due.call(x, "to, fro and to", 3, "changed", 0, 3, 0, 5, 0);
        due.call(x, "to, fro and to", 3, "changed", 0, 3, 0, 5, 1);
        due.call(x, "fro and to", 3, "changed", 3, 0, 0, 5, 0);
        due.call(x, "fro and to", 2, "changed", 3, 0, 0, 5, 1);
        x.change(3, false);
        due.call(x, "one may not at 3", NONE, "changed", 0, 3, 0, 5, 0);
        due.call(x, "one may not at 3", NONE, "changed", 0, 3, 0, 5, 1);
        due.call(x, "one may not at 3", NONE, "changed", 3, 0, 0, 5, 1);
    }

    private static void changedNone() {
        SevenLeagues x = Due.on(".~.~.");
        due.call(x, "nowhere", NONE, "changed", 0, 3, 0, 4, 0);
        due.call(x, "nowhere", NONE, "changed", 0, 3, 0, 4, 1);
        due.call(x, "need not", 2, "changed", 3, 0, 0, 4, 0);
        due.call(x, "need not", 0, "changed", 3, 0, 0, 4, 1);
        x.change(4, true);
        due.call(x, "only where one never comes", NONE, "changed", 0, 3, 0, 4, 0);
        x.change(0, true);
        due.call(x, "where one is", 2, "changed", 0, 3, 0, 4, 0);
        due.call(x, "neither BOOTS can", NONE, "changed", 0, 1, 0, 4, 0);
        due.call(x, "neither BOOTS can", NONE, "changed", 0, 1, 0, 4, 1);
    }

    /** "2 on a hill" is wear: it takes no more STRIDES, changes, MINUTES or ROUNDS. */
    private static void hillsAreNoHindrance() {
        SevenLeagues x = Due.on("^^^^");
        due.call(x, "hills", 3, "far", 0, 0, 3, -1);
        due.call(x, "hills", 3, "changed", 0, 3, 0, 3, 0);
        due.call(x, "hills", 0, "changed", 0, 3, 0, 3, 1);
        due.call(x, "hills", 3, "time", 0, 0, 3);
        due.call(x, "hills", 9, "time", 2, 0, 3);
        due.call(x, "hills", 6, "errands", 0, Due.set(3), -1);
        due.call(x, "hills", 3, "guard", 0, 0, 2, 3, 0);
        due.call(x, "hills wear", 6, "worn", 0, 0, 3);
    }

    // ---- 19 time: "S (1 to 9; 1 at first), P (1 to 9; 3 at first)"

    private static void timeEdges() {
        SevenLeagues x = Due.on(SNAKE);
        due.call(x, "S of 1", 20, "time", 0, 0, 35);
        due.call(x, "P of 3", 60, "time", 2, 0, 35);
        x.minutes(0, 9);
        due.call(x, "S of 9, P of 3", 60, "time", 0, 0, 35);
        x.minutes(1, 9);
        due.call(x, "both of 9", 180, "time", 0, 0, 35);
        due.call(x, "P of 9", 180, "time", 2, 0, 35);
        x.minutes(1, 1);
        due.call(x, "P of 1", 20, "time", 0, 0, 35);
        due.call(x, "P of 1", 20, "time", 2, 0, 35);
        due.call(x, "from here to here", 0, "time", 0, 35, 35);
        x.boots(0, 0, 50);
        due.call(x, "a STRIDE of 9", 9, "time", 0, 0, 35);
        x = Due.on("...~..");
        due.call(x, "steps do not go over sea", NONE, "time", 2, 0, 4);
        due.call(x, "a STRIDE does, and steps on both sides", 3 + 1 + 3, "time", 3, 1, 5);
        due.call(x, "a step and a STRIDE", 3 + 1, "time", 3, 1, 4);
    }

    private static void timeDoesNotWrap() {
        SevenLeagues x = new SevenLeagues();
        x.land(2, 6);
        due.call(x, "from a ROW's end to the next ROW's beginning", 18, "time", 2, 5, 6);
        due.call(x, "and back", 18, "time", 2, 6, 5);
        due.call(x, "down", 3, "time", 2, 5, 11);
        due.call(x, "slanting", 6, "time", 2, 0, 7);
        due.call(x, "slanting by a STRIDE", 1, "time", 1, 0, 7);
    }

    // ---- 20 errands: "all CELLS of a set (5 at most), from HOME and back to HOME"

    private static void errandsOfNone() {
        SevenLeagues x = new SevenLeagues();
        due.call(x, "no CELLS", 0, "errands", 0, 0, -1);
        due.call(x, "no CELLS, no STRIDE", 0, "errands", 2, 0, -1);
        for (int i : new int[] {LOW, -2, 0, 1, 5, HIGH}) {
            due.call(x, "no CELLS", NONE, "errands", 0, 0, i);
        }
    }

    private static void errandsOfFive() {
        SevenLeagues x = new SevenLeagues();
        x.land(6, 6);
        long set = Due.set(5, 30, 35, 1, 34);
        // About the rim: 1, 5, 35, 34, 30; the other way about comes later by CELLS.
        int[] order = {1, 5, 35, 34, 30};
        due.call(x, "five CELLS", 20, "errands", 0, set, -1);
        for (int i = 0; i < 5; i++) {
            due.call(x, "five CELLS", order[i], "errands", 0, set, i);
        }
        for (int i : new int[] {LOW, -2, 5, 6, HIGH}) {
            due.call(x, "no such place in the order", NONE, "errands", 0, set, i);
        }
        due.call(x, "one CELL, the last", 20, "errands", 0, 1L << 35, -1);
        due.call(x, "one CELL, the last", 35, "errands", 0, 1L << 35, 0);
        due.call(x, "one CELL, the last", NONE, "errands", 0, 1L << 35, 1);
        due.call(x, "bit 32 is CELL 32", 32, "errands", 0, 1L << 32, 0);
        due.call(x, "bit 32 is CELL 32", 14, "errands", 0, 1L << 32, -1);
        x.land(4, 4);
        due.call(x, "bit 32 is no CELL of 16", OUTSIDE, "errands", 0, 1L << 32, 0);
    }

    private static void errandsOfHome() {
        SevenLeagues x = new SevenLeagues();
        due.call(x, "HOME alone", 0, "errands", 0, 1, -1);
        due.call(x, "HOME alone", 0, "errands", 0, 1, 0);
        due.call(x, "HOME alone", NONE, "errands", 0, 1, 1);
        due.call(x, "HOME alone, no STRIDE", 0, "errands", 2, 1, -1);
        x.home(15);
        due.call(x, "HOME is the last", 12, "errands", 0, Due.set(0, 15), -1);
        due.call(x, "HOME is the last", 0, "errands", 0, Due.set(0, 15), 0);
        due.call(x, "HOME is the last", 15, "errands", 0, Due.set(0, 15), 1);
    }

    private static void errandsNone() {
        SevenLeagues x = Due.on("...~.");
        for (int i : new int[] {LOW, -1, 0, 1, 4, HIGH}) {
            due.call(x, "one CELL is never reached", NONE, "errands", 0, Due.set(0, 1, 2, 4), i);
            due.call(x, "no STRIDE", NONE, "errands", 2, Due.set(1), i);
        }
        due.call(x, "those that are reached", 4, "errands", 0, Due.set(0, 1, 2), -1);
    }

    // ---- 21 to 23 "PEOPLE 0 to 3, some of whom are there (none at first)"

    private static void peopleEdges() {
        SevenLeagues x = new SevenLeagues();
        x.land(6, 6);
        for (int person = 0; person < 4; person++) {
            due.call(x, "nor was it", Due.UNKNOWN, "leave", person);
            due.call(x, "is there", person + 1, "person", person, 35 - person, 3 - person);
            due.call(x, "bits", (1 << person + 1) - 1, "told", 6);
            due.call(x, "its CELL", 35 - person, "told", 30 + 10 * person);
            due.call(x, "its BOOTS", 3 - person, "told", 31 + 10 * person);
        }
        due.call(x, "otherwise", 4, "person", 0, 0, 0);
        due.call(x, "its CELL", 0, "told", 30);
        due.call(x, "its BOOTS", 0, "told", 31);
        due.call(x, "the next one stays", 34, "told", 40);
        for (int person = 0; person < 4; person++) {
            due.call(x, "goes", 3 - person, "leave", person);
            due.call(x, "is gone", Due.UNKNOWN, "leave", person);
            due.call(x, "is gone", OUTSIDE, "told", 30 + 10 * person);
            due.call(x, "is gone", OUTSIDE, "told", 31 + 10 * person);
        }
        due.call(x, "nobody", 0, "told", 6);
    }

    private static void meetEdges() {
        SevenLeagues x = new SevenLeagues();
        x.land(6, 6);
        due.call(x, "nobody is there", STATE, "meet", 0);
        due.call(x, "nobody is there", STATE, "meet", 1);
        x.person(3, 35, 2);
        due.call(x, "one who can not stride", 0, "meet", 0);
        due.call(x, "one who can not stride", 35, "meet", 1);
        x.person(0, 35, 2);
        x.person(1, 35, 2);
        x.person(2, 35, 2);
        due.call(x, "all in one CELL", 0, "meet", 0);
        due.call(x, "all in one CELL", 35, "meet", 1);
        x.person(0, 34, 2);
        due.call(x, "nowhere", NONE, "meet", 0);
        due.call(x, "nowhere", NONE, "meet", 1);
        x.person(0, 0, 0);
        due.call(x, "one comes to the others", 10, "meet", 0);
        due.call(x, "one comes to the others", 35, "meet", 1);
        for (int person = 0; person < 4; person++) {
            x.leave(person);
        }
        due.call(x, "nobody is there any more", STATE, "meet", 0);
    }

    private static void meetLeastCell() {
        SevenLeagues x = new SevenLeagues();
        x.land(6, 6);
        x.person(0, 0, 0);
        x.person(1, 35, 0);
        due.call(x, "on the slant between two corners", 5, "meet", 0);
        due.call(x, "on the slant between two corners", 5, "meet", 1);
        x.person(2, 5, 0);
        x.person(3, 30, 0);
        // No CELL is in the middle; from 14 the furthest corner is six off.
        due.call(x, "four corners", 6, "meet", 0);
        due.call(x, "four corners", 14, "meet", 1);
        x = Due.on("..~../.~~~./..~..");
        x.person(0, 0, 3);
        x.person(1, 4, 3);
        due.call(x, "parted by LEAGUES", NONE, "meet", 0);
        x.person(0, 1, 3);
        due.call(x, "parted by the sea", NONE, "meet", 1);
        x.person(1, 13, 3);
        due.call(x, "over the sea", 1, "meet", 0);
        due.call(x, "over the sea", 3, "meet", 1);
    }

    // ---- 24 made: "LEAGUES (1 to 50) by which all CELLS of a set are within w STRIDES (0 to 35) of HOME"

    private static void madeEdges() {
        SevenLeagues x = new SevenLeagues();
        x.land(6, 6);
        for (int w : new int[] {0, 1, 35}) {
            due.call(x, "no CELLS", 50, "made", 0, w, 0);
            due.call(x, "no CELLS", 1, "made", 0, w, 1);
            due.call(x, "HOME", 50, "made", 1, w, 0);
            due.call(x, "HOME", 1, "made", 1, w, 1);
        }
        due.call(x, "not by no STRIDE", 0, "made", 2, 0, 0);
        due.call(x, "not by no STRIDE", NONE, "made", 2, 0, 1);
        due.call(x, "the least LEAGUES of all", 1, "made", 2, 1, 0);
        due.call(x, "the least LEAGUES of all", 1, "made", 2, 1, 1);
        due.call(x, "the most LEAGUES of all", 1, "made", 1L << 35, 1, 0);
        due.call(x, "the most LEAGUES of all", 50, "made", 1L << 35, 1, 1);
        due.call(x, "HOME and another", 50, "made", 1L << 35 | 1, 1, 1);
        due.call(x, "no one LEAGUES for both", 0, "made", 1L << 35 | 2, 1, 0);
        due.call(x, "no one LEAGUES for both", NONE, "made", 1L << 35 | 2, 1, 1);
        x.home(35);
        due.call(x, "from HOME", 1, "made", 1L << 34, 1, 1);
        due.call(x, "from HOME", 50, "made", 1, 1, 1);
        due.call(x, "LEAGUES of BOOTS stay", 1, "told", 10);
    }

    /** More CELLS than errands may have. */
    private static void madeAllCells() {
        SevenLeagues x = new SevenLeagues();
        x.land(6, 6);
        long all = (1L << 36) - 1;
        due.call(x, "ten to the furthest corner", 1, "made", all, 10, 1);
        due.call(x, "ten to the furthest corner", 1, "made", all, 35, 1);
        due.call(x, "nine: as a knight goes", 5, "made", all, 9, 1);
        due.call(x, "four: as a knight goes", 5, "made", all, 4, 1);
        due.call(x, "three are too few", NONE, "made", all, 3, 1);
        due.call(x, "three are too few", 0, "made", all, 3, 0);
        x = Due.on(SNAKE);
        due.call(x, "twenty to the end", 1, "made", 1L << 35, 20, 1);
        due.holds("nineteen: not by 1", x.made(1L << 35, 19, 1) != 1);
        due.is("all of the way", x.made(Due.set(SNAKE_WAY), 20, 1), 1);
        due.holds("all of the way, nineteen: not by 1", x.made(Due.set(SNAKE_WAY), 19, 1) != 1);
    }

    // ---- "HEELS do not count in all that follows, if it is not told"

    private static void heelsDoNotCount() {
        SevenLeagues x = new SevenLeagues();
        SevenLeagues worn = new SevenLeagues();
        for (SevenLeagues each : new SevenLeagues[] {x, worn}) {
            each.change(5, true);
            each.person(0, 0, 0);
            each.person(1, 15, 1);
        }
        for (int b = 0; b < 4; b++) {
            worn.boots(b, 1, 0);
        }
        long[][] calls = {{0, 0, 15, -1}, {1, 0, 15, 0}, {3, 0, 10, 1}};
        for (long[] c : calls) {
            same(x, worn, "far", c);
            same(x, worn, "worn", c[0], c[1], c[2]);
            same(x, worn, "time", c[0], c[1], c[2]);
            same(x, worn, "leads", c[0], c[2]);
            same(x, worn, "strides", c[0]);
            same(x, worn, "reached", c[0], c[2]);
            same(x, worn, "changed", c[0], 2, c[1], c[2], 0);
            same(x, worn, "errands", c[0], Due.set(10, 15), -1);
            same(x, worn, "after", c[0], c[2], 12);
            same(x, worn, "ways", c[0], c[1], c[2], 12);
            same(x, worn, "chance", c[0], c[1], c[2], 5, 1);
            same(x, worn, "guard", c[0], c[1], 2, c[2], 0);
            same(x, worn, "posts", c[0], 1);
            same(x, worn, "year", c[0], 77, 99, 0);
        }
        same(x, worn, "meet", 1);
        same(x, worn, "made", 1L << 15, 6, 0);
        same(x, worn, "where");
        same(x, worn, "ask", 0);
        due.is("HEELS of none, far", worn.far(0, 0, 15, -1), 6);
        due.is("HEELS of none, changed", worn.changed(0, 1, 0, 15, 0), 4);
    }

    private static void same(SevenLeagues x, SevenLeagues worn, String name, long... values) {
        due.call(worn, "HEELS do not count", Due.answer(x, name, values), name, values);
    }
}
