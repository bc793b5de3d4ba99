/** The sentences of the document that name a boundary, one by one: Terms, and promises 1 to 14. */
public final class LandBoundsTest {
    private static final int UNKNOWN = Due.UNKNOWN, STATE = Due.STATE, FULL = Due.FULL, NO = Due.NO, NONE = Due.NONE;
    private static final Due due = new Due("LandBoundsTest");

    public static void main(String[] args) {
        atMost512Calls();
        objectsAreApart();
        rowsAndColumns();
        rowByRow();
        landAnew();
        upTo60Signs();
        codes33To126();
        faultOfNoSigns();
        faultOfLand();
        faultOfWalkFirstSign();
        faultOfWalkSecondSign();
        faultOfWalkLength();
        faultOfWalkForgetsTheLand();
        layEdges();
        homeEdges();
        changeEdges();
        leaguesAndHeels();
        minutes();
        judgeNothing();
        judgeThirtyParts();
        judgeHeels();
        judgeLeastReason();
        judgeNoSuchCell();
        judgeChanges();
        leadsEdges();
        waysOfStride();
        due.end();
    }

    // ---- "An object is used for at most 512 calls after it has been made"

    private static void atMost512Calls() {
        SevenLeagues x = new SevenLeagues();
        for (int n = 1; n <= 511; n++) {
            long got = n % 7 == 0 ? x.told(0) : x.say('a');
            due.is("call " + n, got, n % 7 == 0 ? Math.min(60, n - n / 7) : n - n / 7 <= 60 ? n - n / 7 : FULL);
        }
        due.is("the 512th call", x.wipe(), 60);
    }

    private static void objectsAreApart() {
        SevenLeagues x = new SevenLeagues();
        SevenLeagues other = new SevenLeagues();
        x.land(1, 2);
        Due.say(x, ".~");
        x.lay();
        x.say('a');
        x.boots(0, 0, 9);
        x.boots(0, 1, 9);
        x.minutes(0, 9);
        x.change(0, true);
        x.person(0, 0, 0);
        x.seen(0, 0);
        x.image(0);
        int[] first = {0, 4, 4, 0, 1, 3, 0, 0, 0};
        for (int what = 0; what < first.length; what++) {
            due.call(other, "another object", first[what], "told", what);
        }
        due.call(other, "another object", 1, "told", 10);
        due.call(other, "another object", 99, "told", 20);
        due.call(other, "another object", '.', "cell", 1);
        due.call(other, "another object", STATE, "restore", 0);
        due.call(other, "another object", 65535, "where");
    }

    // ---- "ROWS and COLUMNS (1 to 6 each; 4, 4 at first), CELLS row by row from 0 on"

    private static void rowsAndColumns() {
        SevenLeagues x = new SevenLeagues();
        for (int rows = 1; rows <= 6; rows++) {
            for (int columns = 1; columns <= 6; columns++) {
                int cells = rows * columns;
                due.call(x, "ROWS and COLUMNS", cells, "land", rows, columns);
                due.call(x, "ROWS", rows, "told", 1);
                due.call(x, "COLUMNS", columns, "told", 2);
                due.call(x, "the last CELL", '.', "cell", cells - 1);
                due.call(x, "behind the last CELL", UNKNOWN, "cell", cells);
                due.call(x, "all is plain", (1L << cells) - 1, "where");
            }
        }
    }

    /** A ROW's end is not beside the next ROW's beginning. */
    private static void rowByRow() {
        SevenLeagues x = new SevenLeagues();
        x.land(3, 6);
        due.call(x, "first of ROW 0", Due.set(1, 6), "leads", 0, 0);
        due.call(x, "last of ROW 0", Due.set(4, 11), "leads", 0, 5);
        due.call(x, "first of ROW 1", Due.set(0, 7, 12), "leads", 0, 6);
        due.call(x, "last of ROW 1", Due.set(5, 10, 17), "leads", 0, 11);
        due.call(x, "first of ROW 2", Due.set(6, 13), "leads", 0, 12);
        due.call(x, "last of ROW 2", Due.set(11, 16), "leads", 0, 17);
        due.call(x, "slanting, last of ROW 0", Due.set(10), "leads", 1, 5);
        due.call(x, "slanting, first of ROW 1", Due.set(1, 13), "leads", 1, 6);
        x.land(6, 1);
        due.call(x, "one COLUMN", Due.set(1, 3), "leads", 0, 2);
        due.call(x, "one COLUMN", 0, "leads", 1, 2);
        due.call(x, "one COLUMN", Due.set(0, 4), "leads", 3, 2);
        x.land(1, 6);
        due.call(x, "one ROW", Due.set(1, 3), "leads", 0, 2);
        due.call(x, "one ROW", 0, "leads", 1, 2);
    }

    /** "All is plain, HOME is 0, one may CHANGE nowhere, PEOPLE and SIGHTS go", also if the size stays. */
    private static void landAnew() {
        SevenLeagues x = new SevenLeagues();
        x.land(6, 6);
        Due.say(x, "~".repeat(35) + "^");
        x.lay();
        x.change(35, true);
        x.person(2, 35, 0);
        x.seen(35, 0);
        x.land(1, 1);
        due.call(x, "a smaller LAND", '.', "cell", 0);
        due.call(x, "a smaller LAND: HOME", 0, "told", 3);
        due.call(x, "a smaller LAND: CHANGE", 0, "told", 8);
        due.call(x, "a smaller LAND: PEOPLE", 0, "told", 6);
        due.call(x, "a smaller LAND: SIGHTS", 0, "told", 7);
        x.land(6, 6);
        for (int c = 0; c < 36; c++) {
            due.call(x, "a larger LAND is plain", '.', "cell", c);
        }
        due.call(x, "a larger LAND: CHANGE", 0, "told", 8);
    }

    // ---- "a PAD of up to 60 signs (codes 33 to 126)"

    private static void upTo60Signs() {
        SevenLeagues x = new SevenLeagues();
        due.call(x, "no signs", 0, "wipe");
        for (int turn = 0; turn < 2; turn++) {
            for (int n = 1; n <= 60; n++) {
                due.call(x, "up to 60", n, "say", 'a');
            }
            due.call(x, "60 signs", FULL, "say", 'a');
            due.call(x, "60 signs", 60, "told", 0);
            due.call(x, "60 signs", 60, "wipe");
            due.call(x, "no signs again", 0, "told", 0);
            due.call(x, "no signs again", 0, "wipe");
        }
    }

    private static void codes33To126() {
        for (int code = 33; code <= 126; code++) {
            due.call(new SevenLeagues(), "a code", 1, "say", code);
        }
    }

    // ---- "THE FAULT: the place of the first sign that can not stand there, or the number of signs, if more must come"

    private static int fault(SevenLeagues x, int how, String text) {
        x.wipe();
        Due.say(x, text);
        return x.fault(how);
    }

    private static void faultOfNoSigns() {
        SevenLeagues x = new SevenLeagues();
        due.call(x, "of a LAND more must come", 0, "fault", 0);
        due.call(x, "of a WALK none must come", NONE, "fault", 1);
    }

    private static void faultOfLand() {
        for (int side = 1; side <= 6; side++) {
            SevenLeagues x = new SevenLeagues();
            x.land(side, side);
            int cells = side * side;
            String good = "^".repeat(cells);
            due.is("a sign less than CELLS", fault(x, 0, good.substring(1)), cells - 1);
            due.is("as many as CELLS", fault(x, 0, good), NONE);
            due.is("a sign more than CELLS", fault(x, 0, good + "."), cells);
            due.is("60 signs", fault(x, 0, "~".repeat(60)), cells);
            due.is("a wrong sign is the last", fault(x, 0, good.substring(1) + "-"), cells - 1);
            due.is("a wrong sign is the first", fault(x, 0, "-" + good.substring(1)), 0);
            due.is("a wrong sign, and too few", fault(x, 0, "-"), 0);
            due.is("a wrong sign behind the last", fault(x, 0, good + "-"), cells);
        }
        SevenLeagues x = new SevenLeagues();
        x.land(1, 1);
        for (int code = 33; code <= 126; code++) {
            x.wipe();
            x.say(code);
            boolean stands = code == '.' || code == '^' || code == '~';
            due.is("of a LAND, code " + code, x.fault(0), stands ? NONE : 0);
        }
    }

    private static void faultOfWalkFirstSign() {
        SevenLeagues x = new SevenLeagues();
        for (int code = 33; code <= 126; code++) {
            x.wipe();
            x.say(code);
            boolean stands = code == '#' || code >= 'a' && code <= 'f';
            due.is("of a WALK, first sign " + code, x.fault(1), stands ? 1 : 0);
        }
        x = new SevenLeagues();
        for (int code = 33; code <= 126; code++) {
            x.wipe();
            Due.say(x, "c3");
            x.say(code);
            boolean stands = code == '#' || code >= 'a' && code <= 'f';
            due.is("of a WALK, third sign " + code, x.fault(1), stands ? 3 : 2);
        }
    }

    private static void faultOfWalkSecondSign() {
        for (char first : new char[] {'a', 'f', '#'}) {
            SevenLeagues x = new SevenLeagues();
            char last = first == '#' ? '3' : '5';
            for (int code = 33; code <= 126; code++) {
                x.wipe();
                x.say(first);
                x.say(code);
                due.is("of a WALK, " + first + " and " + code, x.fault(1), code >= '0' && code <= last ? NONE : 1);
            }
        }
    }

    private static void faultOfWalkLength() {
        String good = "a0#1".repeat(15);
        for (int n = 0; n <= 60; n++) {
            due.is("of a WALK of " + n + " signs", fault(new SevenLeagues(), 1, good.substring(0, n)), n % 2 == 0 ? NONE : n);
        }
        SevenLeagues x = new SevenLeagues();
        due.is("of a WALK, the 60th sign", fault(x, 1, good.substring(0, 59) + "4"), 59);
        due.is("of a WALK, the 59th sign", fault(x, 1, good.substring(0, 58) + "g1"), 58);
    }

    /** That there is no such CELL is no FAULT, but a reason why a PART can not be. */
    private static void faultOfWalkForgetsTheLand() {
        SevenLeagues x = new SevenLeagues();
        x.land(1, 1);
        due.is("f5 on one CELL", fault(x, 1, "f5"), NONE);
        due.call(x, "f5 on one CELL", 0, "judge", 0);
        due.call(x, "f5 on one CELL", 1, "judge", 1);
    }

    // ---- 6 lay: "it is empty then; HOME is the first CELL that is no sea"

    private static void layEdges() {
        SevenLeagues x = new SevenLeagues();
        x.land(1, 1);
        x.say('~');
        due.call(x, "one CELL of sea", STATE, "lay");
        due.call(x, "one CELL of sea: the PAD", 1, "wipe");
        x.say('^');
        due.call(x, "one CELL, a hill", 1, "lay");
        due.call(x, "one CELL, a hill", '^', "cell", 0);
        due.call(x, "the PAD is empty", 0, "told", 0);
        due.call(x, "of an empty PAD", NO, "lay");
        x.land(6, 6);
        x.boots(2, 0, 50);
        x.boots(2, 1, 0);
        x.minutes(1, 9);
        x.home(17);
        Due.say(x, "~".repeat(35) + ".");
        due.call(x, "only the last is no sea", 1, "lay");
        due.call(x, "only the last is no sea: HOME", 35, "told", 3);
        due.call(x, "BOOTS stay", 50, "told", 12);
        due.call(x, "HEELS stay", 0, "told", 22);
        due.call(x, "MINUTES stay", 9, "told", 5);
        Due.say(x, "." + "~".repeat(35));
        due.call(x, "only the first is no sea", 1, "lay");
        due.call(x, "only the first is no sea: HOME", 0, "told", 3);
        Due.say(x, "^".repeat(36));
        due.call(x, "hills alone are no sea", 36, "lay");
        Due.say(x, "~".repeat(36));
        due.call(x, "36 CELLS of sea", STATE, "lay");
        due.call(x, "36 CELLS of sea: the LAND stays", '^', "cell", 35);
    }

    // ---- 8, 9 home and change

    private static void homeEdges() {
        SevenLeagues x = Due.on("~^./..~");
        due.call(x, "HOME at first", 1, "home", 5 - 1);
        due.call(x, "a hill", 4, "home", 1);
        due.call(x, "the first CELL, sea", STATE, "home", 0);
        due.call(x, "the last CELL, sea", STATE, "home", 5);
        due.call(x, "HOME stays", 1, "told", 3);
        x.land(6, 6);
        due.call(x, "the last of 36", 0, "home", 35);
        due.call(x, "back", 35, "home", 0);
    }

    private static void changeEdges() {
        SevenLeagues x = new SevenLeagues();
        x.land(6, 6);
        for (int c = 0; c < 36; c++) {
            due.call(x, "one may", 1, "change", c, 1);
            due.call(x, "how many", c + 1, "told", 8);
        }
        due.call(x, "one may already", 1, "change", 35, 1);
        due.call(x, "how many", 36, "told", 8);
        for (int c = 0; c < 36; c++) {
            due.call(x, "one may not", 1, "change", c, 0);
            due.call(x, "how many", 35 - c, "told", 8);
        }
        due.call(x, "one might not before", 1, "change", 35, 0);
        due.call(x, "how many", 0, "told", 8);
    }

    // ---- 10, 11 "LEAGUES (1 to 50; BOOTS k have k and 1 at first), HEELS (0 to 99; 99 at first)", S and P "(1 to 9)"

    private static void leaguesAndHeels() {
        for (int b = 0; b < 4; b++) {
            SevenLeagues x = new SevenLeagues();
            int before = b + 1;
            for (int v = 1; v <= 50; v++) {
                due.call(x, "LEAGUES", before, "boots", b, 0, v);
                before = v;
            }
            due.call(x, "LEAGUES", 50, "told", 10 + b);
            before = 99;
            for (int v = 0; v <= 99; v++) {
                due.call(x, "HEELS", before, "boots", b, 1, v);
                before = v;
            }
            due.call(x, "HEELS", 99, "told", 20 + b);
            for (int other = 0; other < 4; other++) {
                due.call(x, "LEAGUES of others", other == b ? 50 : other + 1, "told", 10 + other);
                due.call(x, "HEELS of others", 99, "told", 20 + other);
            }
        }
    }

    private static void minutes() {
        SevenLeagues x = new SevenLeagues();
        int[] before = {1, 3};
        for (int v = 1; v <= 9; v++) {
            for (int which = 0; which < 2; which++) {
                due.call(x, "MINUTES", before[which], "minutes", which, v);
                due.call(x, "MINUTES", v, "told", 4 + which);
                before[which] = v;
            }
        }
    }

    // ---- 12 judge

    private static void judged(SevenLeagues x, String walk, int... answers) {
        x.wipe();
        Due.say(x, walk);
        for (int what = 0; what < answers.length; what++) {
            due.call(x, "'" + walk + "'", answers[what], "judge", what);
        }
    }

    private static void judgeNothing() {
        SevenLeagues x = new SevenLeagues();
        x.home(15);
        judged(x, "", NONE, NONE, 15, 0, 0, 0, 0, 0);
        for (int b = 0; b < 4; b++) {
            x.boots(b, 1, 0);
        }
        judged(x, "", NONE, NONE, 15, 0, 0, 0, 0, 0);
    }

    /** As many PARTS as 60 signs can tell. */
    private static void judgeThirtyParts() {
        SevenLeagues x = new SevenLeagues();
        judged(x, "b0a0".repeat(15), NONE, NONE, 0, 30, 30, 0, 0, 0);
        x.boots(0, 1, 30);
        judged(x, "b0a0".repeat(15), NONE, NONE, 0, 30, 30, 0, 0, 0);
        x.boots(0, 1, 29);
        judged(x, "b0a0".repeat(15), 29, 4, STATE, STATE, STATE, STATE, STATE, STATE);
        x.boots(0, 1, 99);
        judged(x, "b0a0".repeat(14) + "b0c1", 29, 3, STATE);
        x.change(0, true);
        judged(x, "#1#0".repeat(15), NONE, NONE, 0, 0, 0, 0, 0, 0);
        judged(x, "#1#0".repeat(14) + "#2#2", 29, 5, STATE);
    }

    /** "by all their STRIDES of the WALK more than they have": just as many is not more. */
    private static void judgeHeels() {
        SevenLeagues x = new SevenLeagues();
        x.boots(0, 1, 0);
        judged(x, "b0", 0, 4, STATE);
        x.boots(0, 1, 1);
        judged(x, "b0", NONE, NONE, 1, 1, 1, 0, 0, 0);
        judged(x, "b0c0", 1, 4, STATE);
        x = Due.on(".^^.");
        x.boots(0, 1, 4);
        judged(x, "b0c0", NONE, NONE, 2, 2, 4, 0, 0, 0);
        judged(x, "b0c0d0", 2, 4, STATE);
        x.boots(0, 1, 3);
        judged(x, "b0c0", 1, 4, STATE);
        x.boots(0, 1, 1);
        judged(x, "b0", 0, 4, STATE);
        // HEELS of the BOOTS that are on count, not those of others.
        x = new SevenLeagues();
        x.change(0, true);
        x.boots(0, 1, 0);
        judged(x, "#1b1", NONE, NONE, 5, 1, 0, 1, 0, 0);
        x.boots(0, 1, 99);
        x.boots(1, 1, 0);
        judged(x, "#1b1", 1, 4, STATE);
        judged(x, "#1#0b0", NONE, NONE, 1, 1, 1, 0, 0, 0);
    }

    /** "for the least of these reasons": wherever two hold, the least is told. */
    private static void judgeLeastReason() {
        SevenLeagues x = Due.on(".~./~../...");
        x.boots(0, 1, 0);
        judged(x, "d0", 0, 1);
        judged(x, "a3", 0, 1);
        judged(x, "b0", 0, 2);
        judged(x, "a1", 0, 2);
        judged(x, "c0", 0, 3);
        judged(x, "a0", 0, 3);
        x.boots(0, 0, 2);
        judged(x, "b0", 0, 2);
        judged(x, "b1", 0, 4);
        // The first PART that can not be, whatever comes behind it.
        judged(x, "b1d0", 0, 4);
        judged(x, "#0b1", 0, 5);
        x.boots(0, 1, 1);
        judged(x, "b1d0", 1, 1);
        judged(x, "b1c2b0", 1, 4);
    }

    /** A COLUMN that is too far does not wrap around into the next ROW. */
    private static void judgeNoSuchCell() {
        SevenLeagues x = new SevenLeagues();
        x.land(3, 3);
        x.home(2);
        judged(x, "d0", 0, 1);
        judged(x, "a1", 0, 3);
        judged(x, "c3", 0, 1);
        judged(x, "f5", 0, 1);
        judged(x, "c1", NONE, NONE, 5);
        x.land(6, 6);
        x.home(34);
        judged(x, "f5", NONE, NONE, 35);
        x.land(1, 6);
        judged(x, "b0", NONE, NONE, 1);
        judged(x, "a1", 0, 1);
        x.land(6, 1);
        judged(x, "a1", NONE, NONE, 1);
        judged(x, "b0", 0, 1);
    }

    /** "one may not CHANGE there, or those BOOTS are on"; at first BOOTS 0 are on. */
    private static void judgeChanges() {
        SevenLeagues x = new SevenLeagues();
        for (int b = 0; b < 4; b++) {
            judged(x, "#" + b, 0, 5, STATE);
        }
        x.change(0, true);
        judged(x, "#0", 0, 5, STATE);
        for (int b = 1; b < 4; b++) {
            judged(x, "#" + b, NONE, NONE, 0, 0, 0, 0, 0, 0);
            judged(x, "#" + b + "#" + b, 1, 5, STATE);
            judged(x, "#" + b + "#0", NONE, NONE, 0);
        }
        judged(x, "b0#1", 1, 5, STATE);
        x.change(1, true);
        judged(x, "b0#1", NONE, NONE, 1, 1, 1, 0, 0, 0);
        x.change(0, false);
        judged(x, "#1", 0, 5, STATE);
        // BOOTS that are worn out may be put on; they only can not stride.
        x.boots(1, 1, 0);
        judged(x, "b0#1", NONE, NONE, 1);
        judged(x, "b0#1a1", 2, 4, STATE);
    }

    // ---- 13, 14 leads and strides

    private static void leadsEdges() {
        SevenLeagues x = new SevenLeagues();
        x.land(1, 1);
        for (int b = 0; b < 4; b++) {
            due.call(x, "one CELL", 0, "leads", b, 0);
        }
        x.land(6, 6);
        x.boots(0, 0, 50);
        due.call(x, "50, corner to corner", 1L << 35, "leads", 0, 0);
        due.call(x, "50, corner to corner", 1L, "leads", 0, 35);
        due.call(x, "50, corner to corner", 1L << 30, "leads", 0, 5);
        due.call(x, "50, not from elsewhere", 0, "leads", 0, 1);
        x.boots(0, 0, 49);
        due.call(x, "49, seven off", 0, "leads", 0, 0);
        x.boots(0, 0, 25);
        due.call(x, "25, along and slanting", Due.set(5, 30, 22, 27), "leads", 0, 0);
        due.call(x, "25, past bit 31", Due.set(5, 30, 8, 13), "leads", 0, 35);
        x.boots(0, 0, 1);
        due.call(x, "the last but one", Due.set(28, 33, 35), "leads", 0, 34);
        // Whatever lies between: sea and hills are gone over; onto sea no STRIDE leads.
        x = Due.on(".~./~~~/.~~");
        due.call(x, "over the sea", Due.set(2, 6), "leads", 3, 0);
        due.call(x, "onto the sea", 0, "leads", 0, 0);
        due.call(x, "HEELS do not count", 99, "boots", 3, 1, 0);
        due.call(x, "HEELS do not count", Due.set(2, 6), "leads", 3, 0);
    }

    /** The divisors tell in how many ways a number is a sum of two squares: by four 4k and 1 more, 4k and 3 less. */
    private static void waysOfStride() {
        SevenLeagues x = new SevenLeagues();
        x.land(1, 1);
        for (int leagues = 1; leagues <= 50; leagues++) {
            int ways = 0;
            for (int d = 1; d <= leagues; d++) {
                if (leagues % d == 0) {
                    ways += d % 4 == 1 ? 4 : d % 4 == 3 ? -4 : 0;
                }
            }
            x.boots(1, 0, leagues);
            due.call(x, "LEAGUES " + leagues, ways, "strides", 1);
        }
    }
}
