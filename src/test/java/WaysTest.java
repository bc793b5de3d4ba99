/** Promises 15 to 24: far, reached, worn, changed, time, errands, people, meet, made. */
public final class WaysTest {
    private static final int UNKNOWN = -1, OUTSIDE = -2, STATE = -3, FULL = -4, NONE = -6;
    private static final long GONE = -1000000000000000000L;
    private static final Due due = new Due("WaysTest");

    public static void main(String[] args) {
        far();
        farRefused();
        reached();
        worn();
        changed();
        changedToAndFro();
        time();
        errands();
        errandsRefused();
        people();
        meet();
        made();
        due.end();
    }

    private static void far() {
        SevenLeagues x = new SevenLeagues();
        // Of the ways round the rim and through the middle the first by CELLS keeps to the upper ROW.
        int[] way = {1, 2, 3, 7, 11, 15};
        due.is("far(0, 0, 15, -1)", x.far(0, 0, 15, -1), 6);
        for (int i = 0; i < 6; i++) {
            due.is("far(0, 0, 15, " + i + ")", x.far(0, 0, 15, i), way[i]);
        }
        due.is("far(0, 0, 15, 6)", x.far(0, 0, 15, 6), NONE);
        due.is("far(0, 0, 15, MAX)", x.far(0, 0, 15, Integer.MAX_VALUE), NONE);
        int[] back = {11, 7, 3, 2, 1, 0};
        for (int i = 0; i < 6; i++) {
            due.is("far(0, 15, 0, " + i + ")", x.far(0, 15, 0, i), back[i]);
        }
        due.is("far to itself", x.far(0, 6, 6, -1), 0);
        due.is("far to itself, the way", x.far(0, 6, 6, 0), NONE);
        due.is("far never", x.far(1, 0, 1, -1), NONE);
        due.is("far never, the way", x.far(1, 0, 1, 0), NONE);

        x = Due.on("..~../.~~~./.....");
        due.is("far about a sea", x.far(0, 1, 3, -1), 10);
        due.is("far about a sea, last", x.far(0, 1, 3, 9), 3);
        due.is("far about a sea, sixth", x.far(0, 1, 3, 5), 13);
        due.is("far over a sea", x.far(3, 1, 3, -1), 1);
    }

    private static void farRefused() {
        SevenLeagues x = Due.on("..~/...");
        due.is("far(4, 0, 1, -1)", x.far(4, 0, 1, -1), UNKNOWN);
        due.is("far(-1, 0, 1, -1)", x.far(-1, 0, 1, -1), UNKNOWN);
        due.is("far(0, 6, 1, -1)", x.far(0, 6, 1, -1), UNKNOWN);
        due.is("far(0, 0, 6, -1)", x.far(0, 0, 6, -1), UNKNOWN);
        due.is("far(0, -1, 0, 0)", x.far(0, -1, 0, 0), UNKNOWN);
        due.is("far(0, 2, 0, -1), sea", x.far(0, 2, 0, -1), UNKNOWN);
        due.is("far(0, 0, 2, 0), sea", x.far(0, 0, 2, 0), UNKNOWN);
    }

    private static void reached() {
        SevenLeagues x = Due.on("..~../.~~~./..~..");
        due.is("reached(0, 0)", x.reached(0, 0), Due.set(0, 1, 5, 10, 11));
        due.is("reached(0, 4)", x.reached(0, 4), Due.set(3, 4, 9, 13, 14));
        due.is("reached(1, 0), alone", x.reached(1, 0), Due.set(0));
        due.is("reached(3, 1)", x.reached(3, 1), Due.set(1, 3, 11, 13));
        due.is("reached(0, 2), sea", x.reached(0, 2), GONE + UNKNOWN);
        due.is("reached(0, 15)", x.reached(0, 15), GONE + UNKNOWN);
        due.is("reached(4, 0)", x.reached(4, 0), GONE + UNKNOWN);
        due.is("reached(-1, 0)", x.reached(-1, 0), GONE + UNKNOWN);
    }

    private static void worn() {
        // Over the hills it is shorter, about them it wears less.
        SevenLeagues x = Due.on(".^^^./.~~~./.....");
        due.is("worn over hills", x.worn(0, 0, 4), 7);
        x = Due.on(".^^^^^/.~~~~./......");
        due.is("worn about hills", x.worn(0, 0, 5), 10);
        due.is("far over hills", x.far(0, 0, 5, -1), 5);
        due.is("worn to a hill", x.worn(0, 0, 1), 2);
        due.is("worn from a hill", x.worn(0, 1, 0), 1);
        due.is("worn to itself, a hill", x.worn(0, 1, 1), 0);
        due.is("worn never", x.worn(2, 0, 1), NONE);
        x.boots(0, 1, 0);
        due.is("HEELS do not count", x.worn(0, 0, 1), 2);
        due.is("worn(4, 0, 1)", x.worn(4, 0, 1), UNKNOWN);
        due.is("worn(0, 7, 1), sea", x.worn(0, 7, 1), UNKNOWN);
        due.is("worn(0, 1, 7), sea", x.worn(0, 1, 7), UNKNOWN);
        due.is("worn(0, 18, 1)", x.worn(0, 18, 1), UNKNOWN);
        due.is("worn(0, 1, -1)", x.worn(0, 1, -1), UNKNOWN);
    }

    private static void changed() {
        SevenLeagues x = new SevenLeagues();
        x.land(1, 6);
        // BOOTS 0 go one CELL, BOOTS 3 go two.
        due.is("no change anywhere", x.changed(0, 3, 0, 5, 0), 5);
        due.is("no change anywhere, how often", x.changed(0, 3, 0, 5, 1), 0);
        due.is("never, no change", x.changed(3, 0, 0, 5, 0), NONE);
        due.is("never, how often", x.changed(3, 0, 0, 5, 1), NONE);
        x.change(0, true);
        due.is("change first", x.changed(0, 3, 0, 4, 0), 2);
        due.is("change first, how often", x.changed(0, 3, 0, 4, 1), 1);
        x.change(1, true);
        due.is("change at 1", x.changed(0, 3, 0, 5, 0), 3);
        due.is("change at 1, how often", x.changed(0, 3, 0, 5, 1), 1);
        due.is("other BOOTS first", x.changed(3, 0, 0, 5, 0), 3);
        due.is("other BOOTS first, to and fro", x.changed(3, 0, 0, 5, 1), 2);
        due.is("to itself", x.changed(3, 0, 1, 1, 0), 0);
        due.is("to itself, how often", x.changed(3, 0, 1, 1, 1), 0);
    }

    private static void changedToAndFro() {
        SevenLeagues x = Due.on(".~.../~~~~.");
        x.change(0, true);
        x.change(2, true);
        x.change(4, true);
        // Over the sea in BOOTS 3, beyond it too, down at the end in BOOTS 0.
        due.is("three BOOTS' worth", x.changed(0, 3, 0, 9, 0), 3);
        due.is("three BOOTS' worth, how often", x.changed(0, 3, 0, 9, 1), 2);
        due.is("UNKNOWN, both are one", x.changed(1, 1, 0, 2, 0), UNKNOWN);
        due.is("UNKNOWN before OUTSIDE", x.changed(1, 1, 0, 2, 2), UNKNOWN);
        due.is("changed(4, 0, ..)", x.changed(4, 0, 0, 2, 0), UNKNOWN);
        due.is("changed(0, 4, ..)", x.changed(0, 4, 0, 2, 0), UNKNOWN);
        due.is("changed(0, -1, ..)", x.changed(0, -1, 0, 2, 0), UNKNOWN);
        due.is("changed from sea", x.changed(0, 3, 1, 2, 0), UNKNOWN);
        due.is("changed to sea", x.changed(0, 3, 0, 1, 0), UNKNOWN);
        due.is("changed to no CELL", x.changed(0, 3, 0, 10, 0), UNKNOWN);
        due.is("changed, what 2", x.changed(0, 3, 0, 2, 2), OUTSIDE);
        due.is("changed, what -1", x.changed(0, 3, 0, 2, -1), OUTSIDE);
    }

    private static void time() {
        SevenLeagues x = new SevenLeagues();
        x.land(1, 6);
        due.is("time, strides alone", x.time(0, 0, 5), 5);
        due.is("time, strides and a step", x.time(3, 0, 5), 5);
        due.is("time, steps alone", x.time(2, 0, 5), 15);
        due.is("time to itself", x.time(2, 3, 3), 0);
        x.minutes(0, 7);
        due.is("time, dear strides", x.time(3, 0, 4), 12);
        x.minutes(1, 9);
        due.is("time, dear steps", x.time(3, 0, 3), 16);
        due.is("time, back and forth", x.time(0, 0, 1), 7);
        x = Due.on(".~./.~./.~.");
        due.is("time, a sea between", x.time(1, 0, 2), NONE);
        due.is("time, strides over it", x.time(3, 0, 8), 2);
        due.is("time, steps do not go slanting", Due.on(".~/~.").time(2, 0, 3), NONE);
        due.is("time(4, 0, 2)", x.time(4, 0, 2), UNKNOWN);
        due.is("time(0, 1, 2), sea", x.time(0, 1, 2), UNKNOWN);
        due.is("time(0, 0, 1), sea", x.time(0, 0, 1), UNKNOWN);
        due.is("time(0, 0, 9)", x.time(0, 0, 9), UNKNOWN);
    }

    private static void errands() {
        SevenLeagues x = new SevenLeagues();
        x.land(1, 6);
        x.home(2);
        long set = Due.set(0, 3, 5);
        due.is("errands", x.errands(0, set, -1), 10);
        int[] order = {0, 3, 5, NONE};
        for (int i = 0; i < 4; i++) {
            due.is("errands, " + i, x.errands(0, set, i), order[i]);
        }
        due.is("errands with HOME", x.errands(0, Due.set(2, 4), -1), 4);
        due.is("errands with HOME, first", x.errands(0, Due.set(2, 4), 0), 2);
        due.is("errands with HOME, second", x.errands(0, Due.set(2, 4), 1), 4);
        due.is("errands of none", x.errands(0, 0, -1), 0);
        due.is("errands of none, first", x.errands(0, 0, 0), NONE);
        due.is("errands of HOME", x.errands(2, Due.set(2), -1), 0);
        due.is("errands of HOME, first", x.errands(2, Due.set(2), 0), 2);
        due.is("errands never", x.errands(3, Due.set(0, 1), -1), NONE);
        due.is("errands never, first", x.errands(3, Due.set(0, 1), 0), NONE);
        due.is("errands of five", x.errands(0, Due.set(0, 1, 3, 4, 5), -1), 10);

        x.land(3, 3);
        x.home(4);
        // About the rim: every corner is two from the next one and from HOME.
        int[] rim = {0, 2, 8, 6};
        due.is("errands to corners", x.errands(0, Due.set(0, 2, 6, 8), -1), 10);
        for (int i = 0; i < 4; i++) {
            due.is("errands to corners, " + i, x.errands(0, Due.set(0, 2, 6, 8), i), rim[i]);
        }
    }

    private static void errandsRefused() {
        SevenLeagues x = Due.on("..~../.....");
        due.is("errands(4, ..)", x.errands(4, 1, -1), UNKNOWN);
        due.is("errands(-1, ..), all wrong", x.errands(-1, -1L, -1), UNKNOWN);
        due.is("errands to sea", x.errands(0, Due.set(2), -1), OUTSIDE);
        due.is("errands to no CELL", x.errands(0, Due.set(10), -1), OUTSIDE);
        due.is("errands to bit 63", x.errands(0, Long.MIN_VALUE, -1), OUTSIDE);
        due.is("errands to many, one sea", x.errands(0, 1023, -1), OUTSIDE);
        due.is("errands to six", x.errands(0, Due.set(0, 1, 3, 4, 5, 6), -1), FULL);
        due.is("errands to six, HOME among them", x.errands(2, Due.set(0, 1, 3, 4, 5, 6), 9), FULL);
    }

    private static void people() {
        SevenLeagues x = Due.on("..~/...");
        due.is("person(0, 0, 0)", x.person(0, 0, 0), 1);
        due.is("person(3, 5, 2)", x.person(3, 5, 2), 2);
        due.is("told(6)", x.told(6), 9);
        due.is("person(3, 4, 1), otherwise", x.person(3, 4, 1), 2);
        due.is("told(60)", x.told(60), 4);
        due.is("told(61)", x.told(61), 1);
        due.is("person(4, 0, 0)", x.person(4, 0, 0), UNKNOWN);
        due.is("person(-1, 0, 0)", x.person(-1, 0, 0), UNKNOWN);
        due.is("person(1, 6, 0)", x.person(1, 6, 0), UNKNOWN);
        due.is("person(1, -1, 0)", x.person(1, -1, 0), UNKNOWN);
        due.is("person(1, 2, 0), sea", x.person(1, 2, 0), UNKNOWN);
        due.is("person(1, 0, 4)", x.person(1, 0, 4), UNKNOWN);
        due.is("person(1, 0, -1)", x.person(1, 0, -1), UNKNOWN);
        due.is("leave(1), was not", x.leave(1), UNKNOWN);
        due.is("leave(4)", x.leave(4), UNKNOWN);
        due.is("leave(-1)", x.leave(-1), UNKNOWN);
        due.is("leave(0)", x.leave(0), 1);
        due.is("leave(0) again", x.leave(0), UNKNOWN);
        due.is("leave(3)", x.leave(3), 0);
        due.is("told(6) then", x.told(6), 0);
    }

    private static void meet() {
        SevenLeagues x = new SevenLeagues();
        x.land(1, 6);
        due.is("meet(0), nobody", x.meet(0), STATE);
        due.is("meet(2), nobody", x.meet(2), OUTSIDE);
        due.is("meet(-1)", x.meet(-1), OUTSIDE);
        x.person(1, 4, 0);
        due.is("meet(0), alone", x.meet(0), 0);
        due.is("meet(1), alone", x.meet(1), 4);
        x.person(0, 1, 0);
        // Three CELLS apart: two STRIDES the one, one the other; the least such CELL.
        due.is("meet(0), two", x.meet(0), 2);
        due.is("meet(1), two", x.meet(1), 2);
        x.person(0, 0, 3);
        due.is("meet(0), longer strides", x.meet(0), 2);
        due.is("meet(1), longer strides", x.meet(1), 2);
        x.person(0, 0, 0);
        x.person(1, 5, 3);
        due.is("meet(0), the most of any one's", x.meet(0), 2);
        due.is("meet(1), the most of any one's", x.meet(1), 1);
        x.person(2, 2, 2);
        due.is("meet(0), one can not", x.meet(0), NONE);
        due.is("meet(1), one can not", x.meet(1), NONE);
        x.person(2, 1, 2);
        due.is("meet(0), at one who can not", x.meet(0), 2);
        due.is("meet(1), at one who can not", x.meet(1), 1);
        x.leave(0);
        x.leave(1);
        x.leave(2);
        due.is("meet(1), all gone", x.meet(1), STATE);
    }

    private static void made() {
        SevenLeagues x = new SevenLeagues();
        x.land(1, 6);
        // 1 by five, 25 by one STRIDE; 4, 9 and 16 never.
        due.is("made, in five", x.made(Due.set(5), 5, 0), 2);
        due.is("made, in five, least", x.made(Due.set(5), 5, 1), 1);
        due.is("made, in four", x.made(Due.set(5), 4, 0), 1);
        due.is("made, in four, least", x.made(Due.set(5), 4, 1), 25);
        due.is("made, in none", x.made(Due.set(5), 0, 0), 0);
        due.is("made, in none, least", x.made(Due.set(5), 0, 1), NONE);
        due.is("made, to HOME in none", x.made(Due.set(0), 0, 0), 50);
        due.is("made, to nothing, least", x.made(0, 0, 1), 1);
        due.is("made, two CELLS", x.made(Due.set(2, 4), 2, 1), 4);
        due.is("made, two CELLS, how many", x.made(Due.set(2, 4), 2, 0), 1);
        due.is("made, all CELLS", x.made(63, 35, 0), 1);
        x.home(2);
        due.is("made, from another HOME", x.made(Due.set(5), 1, 1), 9);
        due.is("made, w = -1", x.made(1, -1, 0), OUTSIDE);
        due.is("made, w = 36", x.made(1, 36, 0), OUTSIDE);
        due.is("made, what = 2", x.made(1, 1, 2), OUTSIDE);
        due.is("made, what = -1", x.made(1, 1, -1), OUTSIDE);
        due.is("made, no CELL", x.made(64, 1, 0), OUTSIDE);
        due.is("made, bit 63", x.made(Long.MIN_VALUE, 1, 0), OUTSIDE);
        due.is("made, sea", Due.on(".~").made(2, 1, 0), OUTSIDE);
        x.land(6, 6);
        Due.say(x, ".~....");
        Due.say(x, ".~.~~.");
        Due.say(x, ".~.~..");
        Due.say(x, ".~.~.~");
        Due.say(x, ".~.~.~");
        Due.say(x, "...~..");
        x.lay();
        // 5 down, 2 over, 5 up, 3 over, 2 down, 1 back, 3 down, 1 over.
        due.is("made, a long way", x.made(Due.set(35), 22, 1), 1);
        int many = x.made(Due.set(35), 35, 0);
        due.holds("made, a STRIDE less", x.made(Due.set(35), 21, 0) == many - 1);
    }
}
