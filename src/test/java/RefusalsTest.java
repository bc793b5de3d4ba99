import java.util.function.Supplier;

/**
 * Every refusal that the document names: what is answered, the first that fits where several do, GONE with long answers,
 * and that a refused call changes nothing: neither what can be told, nor the PAD, nor an IMAGE.
 */
public final class RefusalsTest {
    private static final int UNKNOWN = Due.UNKNOWN, OUTSIDE = Due.OUTSIDE, STATE = Due.STATE, FULL = Due.FULL, NO = Due.NO;
    private static final int LOW = Due.LOW, HIGH = Due.HIGH;
    private static final Due due = new Due("RefusalsTest");

    /** CELLS 2 and 9 are sea, 1 and 11 are hills. */
    private static final String LAND = ".^~..." + "...~.^" + "......";
    private static final String ALL_SEA = "~~~~~~" + "~~~~~~" + "~~~~~~";

    public static void main(String[] args) {
        lands();
        cells();
        bootsAndMinutes();
        walks();
        ways();
        changed();
        errandsAndMade();
        people();
        sights();
        afterAndWays();
        chance();
        guard();
        postsAndYears();
        images();
        told();
        due.end();
    }

    // ---- the objects that refuse

    private static SevenLeagues busy(String pad) {
        SevenLeagues x = new SevenLeagues();
        x.home(3);
        x.seen(5, 4);
        x.person(0, 9, 2);
        x.boots(3, 1, 8);
        x.image(0);
        x.land(3, 6);
        Due.say(x, LAND);
        x.lay();
        x.home(7);
        x.change(0, true);
        x.change(7, true);
        x.boots(1, 0, 5);
        x.boots(2, 1, 44);
        x.minutes(0, 2);
        x.minutes(1, 8);
        x.person(1, 4, 2);
        x.person(3, 12, 0);
        // All eight hold in CELL 14 alone; two of the MARKS are sea.
        int[][] sights = {{0, 8}, {2, 4}, {9, 2}, {14, 0}, {15, 1}, {13, 1}, {8, 1}, {17, 9}};
        for (int[] sight : sights) {
            x.seen(sight[0], sight[1]);
        }
        Due.say(x, pad);
        return x;
    }

    private static SevenLeagues full() {
        return busy("b0" + ".".repeat(58));
    }

    private static SevenLeagues walking() {
        return busy("#1a0");
    }

    private static SevenLeagues flooded() {
        return busy(ALL_SEA);
    }

    /** All that can be told of an object without a change. */
    private static String print(SevenLeagues x) {
        StringBuilder s = new StringBuilder();
        for (int what = -1; what <= 62; what++) {
            s.append(x.told(what)).append(' ');
        }
        for (int c = 0; c < 36; c++) {
            s.append(x.cell(c)).append(' ');
        }
        for (int what = 0; what < 8; what++) {
            s.append(x.judge(what)).append(' ');
        }
        s.append(x.fault(0)).append(' ').append(x.fault(1)).append(' ').append(x.where()).append(' ');
        s.append(x.changed(0, 1, 0, 16, 0)).append(' ').append(x.changed(0, 1, 0, 16, 1)).append(' ');
        return s.append(x.time(1, 0, 5)).append(' ').append(x.meet(0)).append(' ').append(x.meet(1)).toString();
    }

    /** A new object refuses the call, and afterwards is as another new one that never heard it. */
    private static void no(Supplier<SevenLeagues> maker, int refusal, String name, long... values) {
        SevenLeagues x = maker.get();
        SevenLeagues other = maker.get();
        due.refused(x, "refused", refusal, name, values);
        String row = Due.row(name, values);
        due.holds(row + " changes nothing", print(x).equals(print(other)));
        due.is(row + ": IMAGE 1 is none", x.restore(1), STATE);
        due.is(row + ": IMAGE 0 is there", x.restore(0), other.restore(0));
        due.holds(row + " changes no IMAGE", print(x).equals(print(other)));
    }

    private static void no(int refusal, String name, long... values) {
        no(RefusalsTest::full, refusal, name, values);
    }

    // ---- 1 lands, boots, walks

    private static void lands() {
        for (int wrong : new int[] {LOW, -6, -1, 0, 7, 36, HIGH}) {
            no(OUTSIDE, "land", wrong, 4);
            no(OUTSIDE, "land", 4, wrong);
            no(OUTSIDE, "land", wrong, wrong);
        }
        // A sign that is none is OUTSIDE, though the PAD is full, too; no code wraps around to another one.
        for (int wrong : new int[] {LOW, -210, -1, 0, 32, 127, 46 + 256, 46 + 65536, HIGH}) {
            no(OUTSIDE, "say", wrong);
            no(RefusalsTest::walking, OUTSIDE, "say", wrong);
        }
        for (int sign : new int[] {33, '.', '^', '~', 'a', '0', '#', 126}) {
            no(FULL, "say", sign);
        }
        for (int wrong : new int[] {LOW, -1, 2, HIGH}) {
            no(OUTSIDE, "fault", wrong);
        }
        no(NO, "lay");
        no(RefusalsTest::walking, NO, "lay");
        no(() -> busy(""), NO, "lay");
        no(() -> busy(ALL_SEA + "~"), NO, "lay");
        no(() -> busy(ALL_SEA.substring(1)), NO, "lay");
        no(() -> busy(ALL_SEA.substring(1) + "o"), NO, "lay");
        no(RefusalsTest::flooded, STATE, "lay");
    }

    private static void cells() {
        for (int wrong : new int[] {LOW, -18, -1, 18, 35, 36, 64, HIGH}) {
            no(UNKNOWN, "cell", wrong);
            no(UNKNOWN, "home", wrong);
            no(UNKNOWN, "change", wrong, 1);
            no(UNKNOWN, "change", wrong, 0);
        }
        for (int sea : new int[] {2, 9}) {
            no(STATE, "home", sea);
            no(STATE, "change", sea, 1);
            no(STATE, "change", sea, 0);
        }
    }

    private static void bootsAndMinutes() {
        for (int wrong : new int[] {LOW, -1, 4, HIGH}) {
            no(UNKNOWN, "boots", wrong, 0, 5);
            no(UNKNOWN, "boots", wrong, 1, 5);
            no(UNKNOWN, "boots", wrong, 2, 5);
            no(UNKNOWN, "boots", wrong, 0, 51);
            no(UNKNOWN, "strides", wrong);
        }
        for (int wrong : new int[] {LOW, -1, 0, 51, HIGH}) {
            no(OUTSIDE, "boots", 0, 0, wrong);
            no(OUTSIDE, "boots", 3, 0, wrong);
        }
        for (int wrong : new int[] {LOW, -1, 100, HIGH}) {
            no(OUTSIDE, "boots", 0, 1, wrong);
            no(OUTSIDE, "boots", 3, 1, wrong);
        }
        for (int wrong : new int[] {LOW, -1, 2, HIGH}) {
            no(OUTSIDE, "boots", 0, wrong, 5);
            no(OUTSIDE, "minutes", wrong, 5);
        }
        for (int wrong : new int[] {LOW, -1, 0, 10, HIGH}) {
            no(OUTSIDE, "minutes", 0, wrong);
            no(OUTSIDE, "minutes", 1, wrong);
        }
    }

    // ---- 2 strides

    private static void walks() {
        for (int wrong : new int[] {LOW, -1, 8, HIGH}) {
            no(OUTSIDE, "judge", wrong);
            no(RefusalsTest::walking, OUTSIDE, "judge", wrong);
        }
        for (int what = 0; what < 8; what++) {
            no(NO, "judge", what);
            no(() -> busy("#1a"), NO, "judge", what);
        }
        for (int what = 2; what < 8; what++) {
            no(RefusalsTest::walking, STATE, "judge", what);
        }
    }

    private static final int[] NO_BOOTS = {LOW, -1, 4, HIGH};
    /** No CELLS, and sea. */
    private static final int[] NO_PLACE = {LOW, -1, 18, 35, 36, 64, HIGH, 2, 9};
    private static final int[] NO_CELL = {LOW, -1, 18, 35, 36, 64, HIGH};

    // ---- 3 ways

    private static void ways() {
        for (int wrong : NO_BOOTS) {
            no(UNKNOWN, "leads", wrong, 0);
            no(UNKNOWN, "far", wrong, 0, 1, -1);
            no(UNKNOWN, "far", wrong, 0, 0, 0);
            no(UNKNOWN, "reached", wrong, 0);
            no(UNKNOWN, "worn", wrong, 0, 1);
            no(UNKNOWN, "time", wrong, 0, 1);
        }
        for (int wrong : NO_PLACE) {
            no(UNKNOWN, "leads", 0, wrong);
            no(UNKNOWN, "far", 0, wrong, 1, -1);
            no(UNKNOWN, "far", 0, 1, wrong, 0);
            no(UNKNOWN, "far", 0, wrong, wrong, -1);
            no(UNKNOWN, "reached", 0, wrong);
            no(UNKNOWN, "worn", 0, wrong, 1);
            no(UNKNOWN, "worn", 0, 1, wrong);
            no(UNKNOWN, "worn", 0, wrong, wrong);
            no(UNKNOWN, "time", 0, wrong, 1);
            no(UNKNOWN, "time", 0, 1, wrong);
            no(UNKNOWN, "time", 0, wrong, wrong);
        }
    }

    private static void changed() {
        for (int what : new int[] {0, 2}) {
            for (int wrong : NO_BOOTS) {
                no(UNKNOWN, "changed", wrong, 1, 0, 1, what);
                no(UNKNOWN, "changed", 1, wrong, 0, 1, what);
                no(UNKNOWN, "changed", wrong, wrong, 0, 1, what);
            }
            for (int wrong : NO_PLACE) {
                no(UNKNOWN, "changed", 0, 1, wrong, 1, what);
                no(UNKNOWN, "changed", 0, 1, 1, wrong, what);
                no(UNKNOWN, "changed", 0, 1, wrong, wrong, what);
            }
            for (int one = 0; one < 4; one++) {
                no(UNKNOWN, "changed", one, one, 0, 1, what);
            }
        }
        for (int wrong : new int[] {LOW, -1, 2, HIGH}) {
            no(OUTSIDE, "changed", 0, 1, 0, 1, wrong);
            no(OUTSIDE, "changed", 0, 1, 0, 0, wrong);
        }
    }

    private static void errandsAndMade() {
        // Of other CELLS: bit 32 would be CELL 0, and 34 sea, if bits wrapped around.
        long[] sets = {1L << 18, 1L << 32, 1L << 34, 1L << 35, 1L << 36, 1L << 63, -1L, 1L << 2, 1L << 9, 5L,
            1L | 1L << 18, (1L << 18) - 1};
        for (long wrong : sets) {
            for (int i : new int[] {-1, 0, 1}) {
                no(OUTSIDE, "errands", 0, wrong, i);
            }
            no(UNKNOWN, "errands", 4, wrong, -1);
            no(OUTSIDE, "made", wrong, 5, 0);
            no(OUTSIDE, "made", wrong, 0, 1);
        }
        for (int wrong : NO_BOOTS) {
            no(UNKNOWN, "errands", wrong, 1, -1);
            no(UNKNOWN, "errands", wrong, Due.set(0, 1, 3, 4, 5, 6), -1);
        }
        for (int i : new int[] {LOW, -1, 0, 5, 6, HIGH}) {
            no(FULL, "errands", 0, Due.set(0, 1, 3, 4, 5, 6), i);
            no(FULL, "errands", 2, Due.set(7, 8, 10, 12, 13, 17), i);
        }
        no(FULL, "errands", 0, (1L << 18) - 1 - Due.set(2, 9), -1);
        for (int wrong : new int[] {LOW, -1, 36, HIGH}) {
            no(OUTSIDE, "made", 1, wrong, 0);
            no(OUTSIDE, "made", 0, wrong, 1);
        }
        for (int wrong : new int[] {LOW, -1, 2, HIGH}) {
            no(OUTSIDE, "made", 1, 5, wrong);
        }
    }

    private static void people() {
        for (int wrong : NO_BOOTS) {
            no(UNKNOWN, "person", wrong, 0, 0);
            no(UNKNOWN, "person", 1, 0, wrong);
            no(UNKNOWN, "leave", wrong);
        }
        no(UNKNOWN, "leave", 0);
        no(UNKNOWN, "leave", 2);
        for (int wrong : NO_PLACE) {
            no(UNKNOWN, "person", 0, wrong, 0);
            no(UNKNOWN, "person", 1, wrong, 0);
        }
        for (int wrong : new int[] {LOW, -1, 2, HIGH}) {
            no(OUTSIDE, "meet", wrong);
        }
        Supplier<SevenLeagues> alone = () -> {
            SevenLeagues x = full();
            x.leave(1);
            x.leave(3);
            return x;
        };
        no(alone, STATE, "meet", 0);
        no(alone, STATE, "meet", 1);
        no(alone, OUTSIDE, "meet", 2);
        no(alone, OUTSIDE, "meet", -1);
        no(alone, UNKNOWN, "leave", 1);
        no(alone, UNKNOWN, "leave", 3);
    }

    // ---- 4 where, chances, guards

    private static void sights() {
        for (int wrong : NO_CELL) {
            no(UNKNOWN, "seen", wrong, 1);
            no(UNKNOWN, "seen", wrong, 51);
        }
        for (int wrong : new int[] {LOW, -1, 51, HIGH}) {
            no(OUTSIDE, "seen", 0, wrong);
            no(OUTSIDE, "seen", 2, wrong);
        }
        for (int square : new int[] {0, 8, 50}) {
            no(FULL, "seen", 0, square);
            no(FULL, "seen", 2, square);
        }
        for (int wrong : new int[] {LOW, -1, 2, HIGH}) {
            no(OUTSIDE, "ask", wrong);
        }
    }

    private static void afterAndWays() {
        for (int n : new int[] {0, 12, 13}) {
            for (int wrong : NO_BOOTS) {
                no(UNKNOWN, "after", wrong, 0, n);
                no(UNKNOWN, "ways", wrong, 0, 1, n);
            }
            for (int wrong : NO_CELL) {
                no(UNKNOWN, "after", 0, wrong, n);
                no(UNKNOWN, "ways", 0, wrong, 1, n);
                no(UNKNOWN, "ways", 0, 1, wrong, n);
                no(UNKNOWN, "ways", 0, wrong, wrong, n);
            }
        }
        for (int wrong : new int[] {LOW, -1, 13, HIGH}) {
            no(OUTSIDE, "after", 0, 0, wrong);
            no(OUTSIDE, "ways", 0, 0, 1, wrong);
        }
    }

    private static void chance() {
        for (int n : new int[] {0, 5, 6}) {
            for (int part : new int[] {0, 1, 2}) {
                for (int wrong : NO_BOOTS) {
                    no(UNKNOWN, "chance", wrong, 0, 1, n, part);
                }
                for (int wrong : NO_CELL) {
                    no(UNKNOWN, "chance", 0, wrong, 1, n, part);
                    no(UNKNOWN, "chance", 0, 1, wrong, n, part);
                }
            }
        }
        for (int wrong : new int[] {LOW, -1, 6, HIGH}) {
            no(OUTSIDE, "chance", 0, 0, 1, wrong, 0);
            no(OUTSIDE, "chance", 0, 0, 1, wrong, 1);
        }
        for (int wrong : new int[] {LOW, -1, 2, HIGH}) {
            no(OUTSIDE, "chance", 0, 0, 1, 0, wrong);
            no(OUTSIDE, "chance", 0, 0, 1, 5, wrong);
        }
    }

    private static void guard() {
        for (int what : new int[] {0, 2}) {
            for (int wrong : NO_BOOTS) {
                no(UNKNOWN, "guard", wrong, 0, 1, 5, what);
                no(UNKNOWN, "guard", 1, 0, wrong, 5, what);
            }
            for (int wrong : NO_PLACE) {
                no(UNKNOWN, "guard", 0, wrong, 1, 5, what);
                no(UNKNOWN, "guard", 0, 5, 1, wrong, what);
                no(UNKNOWN, "guard", 0, wrong, 1, wrong, what);
            }
        }
        for (int wrong : new int[] {LOW, -1, 2, HIGH}) {
            no(OUTSIDE, "guard", 0, 0, 1, 5, wrong);
            no(OUTSIDE, "guard", 0, 5, 1, 5, wrong);
        }
    }

    private static void postsAndYears() {
        for (int wrong : NO_BOOTS) {
            no(UNKNOWN, "posts", wrong, 0);
            no(UNKNOWN, "posts", wrong, 2);
            no(UNKNOWN, "year", wrong, 0, 1, 0);
            no(UNKNOWN, "year", wrong, 10000, 100, 3);
        }
        for (int wrong : new int[] {LOW, -1, 2, HIGH}) {
            no(OUTSIDE, "posts", 0, wrong);
        }
        no(FULL, "posts", 0, 0);
        no(FULL, "posts", 3, 1);
        for (int wrong : new int[] {LOW, -1, 10000, HIGH}) {
            no(OUTSIDE, "year", 0, wrong, 1, 0);
        }
        for (int wrong : new int[] {LOW, -1, 0, 100, HIGH}) {
            no(OUTSIDE, "year", 0, 5, wrong, 0);
        }
        for (int wrong : new int[] {LOW, -1, 3, HIGH}) {
            no(OUTSIDE, "year", 0, 5, 1, wrong);
        }
    }

    private static void images() {
        for (int wrong : new int[] {LOW, -1, 2, HIGH}) {
            no(OUTSIDE, "image", wrong);
            no(OUTSIDE, "restore", wrong);
        }
        no(STATE, "restore", 1);
    }

    private static void told() {
        int[] wrong = {LOW, LOW + 30, -10, -1, 9, 14, 15, 19, 24, 29, 30, 31, 32, 39, 42, 49, 50, 51, 62, 69, 70, 71,
            80, 100, HIGH - 7, HIGH};
        for (int what : wrong) {
            no(OUTSIDE, "told", what);
        }
    }
}
