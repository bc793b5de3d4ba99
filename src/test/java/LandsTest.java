/** Promises 1 to 11: a new object, lands, the pad, home, changes, boots, minutes. */
public final class LandsTest {
    private static final int UNKNOWN = -1, OUTSIDE = -2, STATE = -3, FULL = -4, NO = -5, NONE = -6;
    private static final Due due = new Due("LandsTest");

    public static void main(String[] args) {
        constants();
        newObject();
        land();
        sayAndWipe();
        faultOfLand();
        faultOfWalk();
        lay();
        layRefused();
        cellAndHome();
        change();
        boots();
        minutes();
        due.end();
    }

    private static void constants() {
        due.is("UNKNOWN", SevenLeagues.UNKNOWN, UNKNOWN);
        due.is("OUTSIDE", SevenLeagues.OUTSIDE, OUTSIDE);
        due.is("STATE", SevenLeagues.STATE, STATE);
        due.is("FULL", SevenLeagues.FULL, FULL);
        due.is("NO", SevenLeagues.NO, NO);
        due.is("NONE", SevenLeagues.NONE, NONE);
        due.is("GONE", SevenLeagues.GONE, -1000000000000000000L);
    }

    private static void newObject() {
        SevenLeagues x = new SevenLeagues();
        int[] first = {0, 4, 4, 0, 1, 3, 0, 0, 0};
        for (int what = 0; what < first.length; what++) {
            due.is("new: told(" + what + ")", x.told(what), first[what]);
        }
        for (int b = 0; b < 4; b++) {
            due.is("new: LEAGUES of " + b, x.told(10 + b), b + 1);
            due.is("new: HEELS of " + b, x.told(20 + b), 99);
        }
        for (int c = 0; c < 16; c++) {
            due.is("new: cell(" + c + ")", x.cell(c), '.');
        }
        due.is("new: cell(16)", x.cell(16), UNKNOWN);
        due.is("new: where()", x.where(), 65535);
        due.is("new: restore(0)", x.restore(0), STATE);
        due.is("new: restore(1)", x.restore(1), STATE);
        for (int p = 0; p < 4; p++) {
            due.is("new: person " + p, x.told(30 + 10 * p), OUTSIDE);
        }
    }

    private static void land() {
        SevenLeagues x = new SevenLeagues();
        due.is("land(6, 6)", x.land(6, 6), 36);
        due.is("land(1, 1)", x.land(1, 1), 1);
        due.is("land(1, 6)", x.land(1, 6), 6);
        due.is("land(6, 1)", x.land(6, 1), 6);
        due.is("land(3, 5)", x.land(3, 5), 15);
        int[][] wrong = {{0, 4}, {4, 0}, {7, 4}, {4, 7}, {-1, -1}, {Integer.MIN_VALUE, 3}, {3, Integer.MAX_VALUE}};
        for (int[] w : wrong) {
            due.is("land(" + w[0] + ", " + w[1] + ")", x.land(w[0], w[1]), OUTSIDE);
        }
        due.is("rows stay", x.told(1), 3);
        due.is("columns stay", x.told(2), 5);

        x = Due.on("~^./...");
        x.home(4);
        x.change(2, true);
        x.boots(1, 0, 9);
        x.minutes(1, 7);
        x.person(2, 3, 1);
        x.seen(0, 1);
        Due.say(x, "ab");
        due.is("land anew", x.land(2, 3), 6);
        for (int c = 0; c < 6; c++) {
            due.is("plain anew " + c, x.cell(c), '.');
        }
        due.is("HOME anew", x.told(3), 0);
        due.is("CHANGE nowhere", x.told(8), 0);
        due.is("PEOPLE go", x.told(6), 0);
        due.is("a PERSON goes", x.told(50), OUTSIDE);
        due.is("SIGHTS go", x.told(7), 0);
        due.is("where anew", x.where(), 63);
        due.is("the PAD stays", x.told(0), 2);
        due.is("BOOTS stay", x.told(11), 9);
        due.is("MINUTES stay", x.told(5), 7);
    }

    private static void sayAndWipe() {
        SevenLeagues x = new SevenLeagues();
        due.is("wipe() of none", x.wipe(), 0);
        due.is("say(32)", x.say(32), OUTSIDE);
        due.is("say(127)", x.say(127), OUTSIDE);
        due.is("say(-1)", x.say(-1), OUTSIDE);
        due.is("say(33)", x.say(33), 1);
        due.is("say(126)", x.say(126), 2);
        for (int n = 3; n <= 60; n++) {
            due.is("say, sign " + n, x.say('.'), n);
        }
        due.is("say, sign 61", x.say('.'), FULL);
        due.is("say(127) when full", x.say(127), OUTSIDE);
        due.is("told(0) when full", x.told(0), 60);
        due.is("wipe()", x.wipe(), 60);
        due.is("told(0) wiped", x.told(0), 0);
        due.is("say after wipe", x.say('a'), 1);
    }

    private static void faultOfLand() {
        SevenLeagues x = new SevenLeagues();
        x.land(2, 2);
        due.is("fault(-1)", x.fault(-1), OUTSIDE);
        due.is("fault(2)", x.fault(2), OUTSIDE);
        String[] texts = {"", ".", ".^~", ".^~.", ".^~..", "....x", "x", "..o.", "....~~~~", "...o.", "a0"};
        int[] faults = {0, 1, 3, NONE, 4, 4, 0, 2, 4, 3, 0};
        for (int i = 0; i < texts.length; i++) {
            x.wipe();
            Due.say(x, texts[i]);
            due.is("fault(0) of '" + texts[i] + "'", x.fault(0), faults[i]);
        }
        due.is("fault() leaves the PAD", x.told(0), 2);
    }

    private static void faultOfWalk() {
        SevenLeagues x = new SevenLeagues();
        String[] texts = {"", "a", "a0", "f5", "g0", "a6", "a/", "#", "#3", "#4", "#0b2", "#0b", "#0b2#", "0a", "a0 b",
            "A0", "a0a0a0", "a0a0aa", "#a", "##", "`0"};
        int[] faults = {NONE, 1, NONE, NONE, 0, 1, 1, 1, NONE, 1, NONE, 3, 5, 0, 3,
            0, NONE, 5, 1, 1, 0};
        for (int i = 0; i < texts.length; i++) {
            x.wipe();
            Due.say(x, texts[i]);
            due.is("fault(1) of '" + texts[i] + "'", x.fault(1), faults[i]);
        }
        x.wipe();
        for (int i = 0; i < 60; i++) {
            x.say(i % 2 == 0 ? 'b' : '1');
        }
        due.is("fault(1) of 60 signs", x.fault(1), NONE);
    }

    private static void lay() {
        SevenLeagues x = new SevenLeagues();
        x.land(2, 3);
        x.home(4);
        x.change(1, true);
        x.person(0, 1, 2);
        x.person(3, 2, 2);
        x.seen(0, 4);
        Due.say(x, "~~^.~.");
        due.is("lay()", x.lay(), 3);
        due.is("the PAD is empty", x.told(0), 0);
        String text = "~~^.~.";
        for (int c = 0; c < 6; c++) {
            due.is("laid " + c, x.cell(c), text.charAt(c));
        }
        due.is("HOME is the first that is no sea", x.told(3), 2);
        due.is("CHANGE nowhere", x.told(8), 0);
        due.is("PEOPLE go", x.told(6), 0);
        due.is("SIGHTS go", x.told(7), 0);
        due.is("where() is dry", x.where(), Due.set(2, 3, 5));
        due.is("ROWS stay", x.told(1), 2);
        due.is("COLUMNS stay", x.told(2), 3);
        due.is("lay() of nothing", x.lay(), NO);

        x = new SevenLeagues();
        x.land(6, 6);
        Due.say(x, "....................................");
        due.is("lay() of 36", x.lay(), 36);
        due.is("where() of 36", x.where(), (1L << 36) - 1);
    }

    private static void layRefused() {
        SevenLeagues x = Due.on("^.");
        x.home(1);
        x.change(0, true);
        x.person(1, 0, 0);
        x.seen(1, 1);
        for (String text : new String[] {"~", "~~~", "~a", "..."}) {
            x.wipe();
            Due.say(x, text);
            due.is("lay() of '" + text + "'", x.lay(), NO);
            due.is("the PAD stays behind NO", x.told(0), text.length());
        }
        x.wipe();
        Due.say(x, "~~");
        due.is("lay() of all sea", x.lay(), STATE);
        due.is("the PAD stays behind STATE", x.told(0), 2);
        due.is("the LAND stays", x.cell(0), '^');
        due.is("HOME stays", x.told(3), 1);
        due.is("CHANGE stays", x.told(8), 1);
        due.is("PEOPLE stay", x.told(6), 2);
        due.is("SIGHTS stay", x.told(7), 1);
    }

    private static void cellAndHome() {
        SevenLeagues x = Due.on(".^~/~^.");
        String text = ".^~~^.";
        for (int c = 0; c < 6; c++) {
            due.is("cell(" + c + ")", x.cell(c), text.charAt(c));
        }
        due.is("cell(-1)", x.cell(-1), UNKNOWN);
        due.is("cell(6)", x.cell(6), UNKNOWN);
        due.is("cell(MAX)", x.cell(Integer.MAX_VALUE), UNKNOWN);
        due.is("cell(MIN)", x.cell(Integer.MIN_VALUE), UNKNOWN);
        due.is("home(1)", x.home(1), 0);
        due.is("home(2), sea", x.home(2), STATE);
        due.is("home(6)", x.home(6), UNKNOWN);
        due.is("home(-1)", x.home(-1), UNKNOWN);
        due.is("HOME stays", x.told(3), 1);
        due.is("home(5)", x.home(5), 1);
        due.is("home(5) again", x.home(5), 5);
    }

    private static void change() {
        SevenLeagues x = Due.on(".^~/~^.");
        due.is("change(0, true)", x.change(0, true), 1);
        due.is("change(0, true) again", x.change(0, true), 1);
        due.is("change(5, true)", x.change(5, true), 1);
        due.is("told(8)", x.told(8), 2);
        due.is("change(2, true), sea", x.change(2, true), STATE);
        due.is("change(2, false), sea", x.change(2, false), STATE);
        due.is("change(6, true)", x.change(6, true), UNKNOWN);
        due.is("change(-1, false)", x.change(-1, false), UNKNOWN);
        due.is("change(0, false)", x.change(0, false), 1);
        due.is("change(1, false), was not", x.change(1, false), 1);
        due.is("told(8) then", x.told(8), 1);
    }

    private static void boots() {
        SevenLeagues x = new SevenLeagues();
        for (int b = 0; b < 4; b++) {
            due.is("boots(" + b + ", 0, 50)", x.boots(b, 0, 50), b + 1);
            due.is("boots(" + b + ", 0, 1)", x.boots(b, 0, 1), 50);
            due.is("boots(" + b + ", 1, 0)", x.boots(b, 1, 0), 99);
            due.is("boots(" + b + ", 1, 99)", x.boots(b, 1, 99), 0);
        }
        due.is("boots(4, 0, 5)", x.boots(4, 0, 5), UNKNOWN);
        due.is("boots(-1, 0, 5)", x.boots(-1, 0, 5), UNKNOWN);
        due.is("boots(4, 2, 99), both", x.boots(4, 2, 999), UNKNOWN);
        due.is("boots(0, 0, 0)", x.boots(0, 0, 0), OUTSIDE);
        due.is("boots(0, 0, 51)", x.boots(0, 0, 51), OUTSIDE);
        due.is("boots(0, 1, -1)", x.boots(0, 1, -1), OUTSIDE);
        due.is("boots(0, 1, 100)", x.boots(0, 1, 100), OUTSIDE);
        due.is("boots(0, 2, 5)", x.boots(0, 2, 5), OUTSIDE);
        due.is("boots(0, -1, 5)", x.boots(0, -1, 5), OUTSIDE);
        due.is("LEAGUES stay", x.told(10), 1);
        due.is("HEELS stay", x.told(20), 99);
    }

    private static void minutes() {
        SevenLeagues x = new SevenLeagues();
        due.is("minutes(0, 9)", x.minutes(0, 9), 1);
        due.is("minutes(0, 2)", x.minutes(0, 2), 9);
        due.is("minutes(1, 1)", x.minutes(1, 1), 3);
        due.is("minutes(0, 0)", x.minutes(0, 0), OUTSIDE);
        due.is("minutes(1, 10)", x.minutes(1, 10), OUTSIDE);
        due.is("minutes(2, 5)", x.minutes(2, 5), OUTSIDE);
        due.is("minutes(-1, 5)", x.minutes(-1, 5), OUTSIDE);
        due.is("S", x.told(4), 2);
        due.is("P", x.told(5), 1);
    }
}
