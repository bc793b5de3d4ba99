import java.util.Random;

/** Runs of drawn calls, at most 512 on an object, held against the plain Model. The draws are the same each time. */
public final class RandomRunsTest {
    private static final Due due = new Due("RandomRunsTest");
    private static final int RUNS = 400;
    private static final int CALLS = 512;
    private static final int KINDS = 37;
    private static final int[] LEAGUES = {1, 2, 4, 5, 8, 9, 10, 13, 16, 17, 18, 20, 25, 26, 29, 32, 34, 41, 50, 3, 7};

    private final Random draw;
    private final SevenLeagues x = new SevenLeagues();
    private final Model m = new Model();
    private int cells = 16;

    private RandomRunsTest(int seed) {
        draw = new Random(seed);
    }

    public static void main(String[] args) {
        for (int run = 0; run < RUNS && due.clean(); run++) {
            RandomRunsTest t = new RandomRunsTest(run);
            for (int n = 0; n < CALLS && due.clean(); n++) {
                t.call("run " + run + ", call " + n + ": ");
            }
        }
        due.end();
    }

    private int to(int most) {
        return draw.nextInt(most + 1);
    }

    /** Mostly 0 to most, now and then another number. */
    private int about(int most) {
        int kind = draw.nextInt(40);
        if (kind == 0) {
            return -1 - to(2);
        }
        if (kind == 1) {
            return most + 1 + to(2);
        }
        if (kind == 2 && draw.nextInt(4) == 0) {
            return draw.nextInt();
        }
        return to(most);
    }

    private int cell() {
        return about(cells - 1);
    }

    private int boots() {
        return about(3);
    }

    private long set(int many) {
        if (draw.nextInt(30) == 0) {
            return draw.nextLong();
        }
        long set = 0;
        for (int k = to(many); k > 0; k--) {
            int c = to(cells - 1);
            if (m.cell(c) != '~' || draw.nextInt(30) == 0) {
                set |= 1L << c;
            }
        }
        return draw.nextInt(40) == 0 ? set | 1L << cells : set;
    }

    private void same(String call, long got, long want) {
        due.is(call, got, want);
    }

    private void call(String run) {
        int kind = draw.nextInt(KINDS);
        if (kind < 12) {
            state(run, kind);
        } else if (kind < 22) {
            ways(run, kind);
        } else {
            rest(run, kind);
        }
    }

    private void state(String run, int kind) {
        int a = 0;
        int b = 0;
        int c = 0;
        switch (kind) {
            case 0:
                if (draw.nextInt(6) == 0) {
                    a = 1 + about(5);
                    b = 1 + about(5);
                    same(run + "land(" + a + ", " + b + ")", x.land(a, b), m.land(a, b));
                }
                break;
            case 1:
                sayLand(run);
                same(run + "fault(0)", x.fault(0), m.fault(0));
                same(run + "lay()", x.lay(), m.lay());
                break;
            case 2:
                sayWalk(run);
                a = about(7);
                same(run + "judge(" + a + ")", x.judge(a), m.judge(a));
                break;
            case 3:
                a = 33 + about(93);
                same(run + "say(" + a + ")", x.say(a), m.say(a));
                break;
            case 4:
                same(run + "wipe()", x.wipe(), m.wipe());
                break;
            case 5:
                a = about(1);
                same(run + "fault(" + a + ")", x.fault(a), m.fault(a));
                break;
            case 6:
                a = cell();
                same(run + "cell(" + a + ")", x.cell(a), m.cell(a));
                break;
            case 7:
                a = cell();
                same(run + "home(" + a + ")", x.home(a), m.home(a));
                break;
            case 8:
                a = cell();
                boolean may = draw.nextInt(3) > 0;
                same(run + "change(" + a + ", " + may + ")", x.change(a, may), m.change(a, may));
                break;
            case 9:
                a = boots();
                b = about(1);
                c = b == 0 && draw.nextInt(8) > 0 ? LEAGUES[draw.nextInt(LEAGUES.length)] : about(99);
                if (b == 1 && draw.nextBoolean()) {
                    c = to(6);
                }
                same(run + "boots(" + a + ", " + b + ", " + c + ")", x.boots(a, b, c), m.boots(a, b, c));
                break;
            case 10:
                a = about(1);
                b = 1 + about(8);
                same(run + "minutes(" + a + ", " + b + ")", x.minutes(a, b), m.minutes(a, b));
                break;
            default:
                a = draw.nextBoolean() ? about(8) : about(75);
                same(run + "told(" + a + ")", x.told(a), m.told(a));
                break;
        }
        cells = m.told(1) * m.told(2);
    }

    private void sayLand(String run) {
        same(run + "wipe()", x.wipe(), m.wipe());
        int sea = to(5);
        int hill = to(3);
        int many = draw.nextInt(12) == 0 ? about(cells + 3) : cells;
        for (int i = 0; i < many && i < 61; i++) {
            int k = draw.nextInt(12);
            int sign = k < sea ? '~' : k < sea + hill ? '^' : '.';
            sign = draw.nextInt(300) == 0 ? 33 + to(93) : sign;
            same(run + "say(" + sign + ")", x.say(sign), m.say(sign));
        }
    }

    /** A WALK that mostly goes where it may, so that later PARTS are come to. */
    private void sayWalk(String run) {
        same(run + "wipe()", x.wipe(), m.wipe());
        int at = m.told(3);
        int on = 0;
        for (int p = to(8); p > 0; p--) {
            if (draw.nextInt(5) == 0) {
                on = to(3);
                sayPart(run, '#', '0' + on);
            } else {
                int goal = goal(m.leads(on, at), at);
                int columns = m.told(2);
                sayPart(run, 'a' + goal % columns, '0' + goal / columns);
                at = goal;
            }
        }
        if (draw.nextInt(20) == 0) {
            sayPart(run, 33 + to(93), 33 + to(93));
        }
    }

    private int goal(long goals, int at) {
        if (goals <= 0 || draw.nextInt(12) == 0) {
            return to(35);
        }
        int c = to(cells - 1);
        for (int n = 0; n < 40 && (goals >> c & 1) == 0; n++) {
            c = (c + 1) % cells;
        }
        return c;
    }

    private void sayPart(String run, int first, int second) {
        same(run + "say(" + first + ")", x.say(first), m.say(first));
        same(run + "say(" + second + ")", x.say(second), m.say(second));
    }

    private void ways(String run, int kind) {
        int b = boots();
        int from = cell();
        int goal = cell();
        int i = draw.nextInt(3) == 0 ? -1 : about(6);
        long set = set(6);
        switch (kind) {
            case 12:
                same(run + "leads(" + b + ", " + from + ")", x.leads(b, from), m.leads(b, from));
                break;
            case 13:
                same(run + "strides(" + b + ")", x.strides(b), m.strides(b));
                break;
            case 14:
                same(run + "far(" + b + ", " + from + ", " + goal + ", " + i + ")",
                    x.far(b, from, goal, i), m.far(b, from, goal, i));
                break;
            case 15:
                same(run + "reached(" + b + ", " + from + ")", x.reached(b, from), m.reached(b, from));
                break;
            case 16:
                same(run + "worn(" + b + ", " + from + ", " + goal + ")", x.worn(b, from, goal), m.worn(b, from, goal));
                break;
            case 17:
                int other = boots();
                int what = about(1);
                same(run + "changed(" + b + ", " + other + ", " + from + ", " + goal + ", " + what + ")",
                    x.changed(b, other, from, goal, what), m.changed(b, other, from, goal, what));
                break;
            case 18:
                same(run + "time(" + b + ", " + from + ", " + goal + ")", x.time(b, from, goal), m.time(b, from, goal));
                break;
            case 19:
                same(run + "errands(" + b + ", " + set + ", " + i + ")", x.errands(b, set, i), m.errands(b, set, i));
                break;
            case 20:
                int w = draw.nextBoolean() ? to(4) : about(35);
                int which = about(1);
                long some = set(3);
                same(run + "made(" + some + ", " + w + ", " + which + ")", x.made(some, w, which), m.made(some, w, which));
                break;
            default:
                int n = about(12);
                same(run + "after(" + b + ", " + from + ", " + n + ")", x.after(b, from, n), m.after(b, from, n));
                break;
        }
    }

    private void rest(String run, int kind) {
        int b = boots();
        int from = cell();
        int goal = cell();
        int what = about(1);
        int n = 0;
        switch (kind) {
            case 22:
            case 23:
                n = about(3);
                same(run + "person(" + n + ", " + from + ", " + b + ")", x.person(n, from, b), m.person(n, from, b));
                break;
            case 24:
                n = about(3);
                same(run + "leave(" + n + ")", x.leave(n), m.leave(n));
                break;
            case 25:
                same(run + "meet(" + what + ")", x.meet(what), m.meet(what));
                break;
            case 26:
                n = draw.nextInt(3) > 0 ? LEAGUES[draw.nextInt(LEAGUES.length)] : about(50);
                same(run + "seen(" + from + ", " + n + ")", x.seen(from, n), m.seen(from, n));
                break;
            case 27:
                same(run + "where()", x.where(), m.where());
                break;
            case 28:
                if (draw.nextBoolean()) {
                    same(run + "forget()", x.forget(), m.forget());
                }
                break;
            case 29:
                same(run + "ask(" + what + ")", x.ask(what), m.ask(what));
                break;
            case 30:
                n = about(12);
                same(run + "ways(" + b + ", " + from + ", " + goal + ", " + n + ")",
                    x.ways(b, from, goal, n), m.ways(b, from, goal, n));
                break;
            case 31:
                n = about(5);
                same(run + "chance(" + b + ", " + from + ", " + goal + ", " + n + ", " + what + ")",
                    x.chance(b, from, goal, n, what), m.chance(b, from, goal, n, what));
                break;
            case 32:
                n = boots();
                same(run + "guard(" + b + ", " + from + ", " + n + ", " + goal + ", " + what + ")",
                    x.guard(b, from, n, goal, what), m.guard(b, from, n, goal, what));
                break;
            case 33:
                same(run + "posts(" + b + ", " + what + ")", x.posts(b, what), m.posts(b, what));
                break;
            case 34:
                int seed = about(9999);
                int whichOf = about(2);
                n = 1 + about(98);
                same(run + "year(" + b + ", " + seed + ", " + n + ", " + whichOf + ")",
                    x.year(b, seed, n, whichOf), m.year(b, seed, n, whichOf));
                break;
            case 35:
                same(run + "image(" + what + ")", x.image(what), m.image(what));
                break;
            default:
                if (draw.nextBoolean()) {
                    same(run + "restore(" + what + ")", x.restore(what), m.restore(what));
                    cells = m.told(1) * m.told(2);
                }
                break;
        }
    }
}
