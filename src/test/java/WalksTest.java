/** Promises 12 to 14: walks judged, where strides lead, ways of stride. */
public final class WalksTest {
    private static final int UNKNOWN = -1, OUTSIDE = -2, STATE = -3, NO = -5, NONE = -6;
    private static final long GONE = -1000000000000000000L;
    private static final Due due = new Due("WalksTest");

    public static void main(String[] args) {
        emptyWalk();
        refused();
        reasons();
        heels();
        changes();
        goodWalk();
        leads();
        strides();
        due.end();
    }

    private static void judged(SevenLeagues x, String walk, int... answers) {
        x.wipe();
        Due.say(x, walk);
        for (int what = 0; what < answers.length; what++) {
            due.is("judge(" + what + ") of '" + walk + "'", x.judge(what), answers[what]);
        }
        due.is("judge() leaves the PAD", x.told(0), walk.length());
    }

    private static void emptyWalk() {
        SevenLeagues x = new SevenLeagues();
        x.home(7);
        judged(x, "", NONE, NONE, 7, 0, 0, 0, 0, 0);
    }

    private static void refused() {
        SevenLeagues x = new SevenLeagues();
        due.is("judge(-1)", x.judge(-1), OUTSIDE);
        due.is("judge(8)", x.judge(8), OUTSIDE);
        Due.say(x, "b0c");
        for (int what = 0; what < 8; what++) {
            due.is("judge(" + what + ") with a FAULT", x.judge(what), NO);
        }
        due.is("judge(8) with a FAULT", x.judge(8), OUTSIDE);
    }

    /** For each reason the first PART that can not be; the columns are letters, the rows digits. */
    private static void reasons() {
        SevenLeagues x = Due.on(".~./..^");
        judged(x, "d0", 0, 1, STATE, STATE, STATE, STATE, STATE, STATE);
        judged(x, "a2", 0, 1, STATE);
        judged(x, "b0", 0, 2, STATE);
        judged(x, "c0", 0, 3, STATE);
        judged(x, "a0", 0, 3, STATE);
        judged(x, "b1", 0, 3, STATE);
        judged(x, "a1", NONE, NONE, 3, 1, 1, 0, 0, 0);
        judged(x, "a1b1a2b0", 2, 1, STATE);
        judged(x, "a1b1b0a0", 2, 2, STATE);
        judged(x, "a1b1a0", 2, 3, STATE);
        judged(x, "#1", 0, 5, STATE);
        x.boots(0, 1, 0);
        judged(x, "d0", 0, 1);
        judged(x, "b0", 0, 2);
        judged(x, "c0", 0, 3);
        judged(x, "a1", 0, 4, STATE);
    }

    private static void heels() {
        SevenLeagues x = Due.on(".^./...");
        x.boots(0, 1, 3);
        judged(x, "b0c0", NONE, NONE, 2, 2, 3, 0, 0, 0);
        judged(x, "b0c0c1", 2, 4, STATE);
        judged(x, "a1b1b0", 2, 4, STATE);
        judged(x, "a1b1c1", NONE, NONE, 5, 3, 3, 0, 0, 0);
        x.boots(0, 1, 2);
        judged(x, "b0", NONE, NONE, 1, 1, 2);
        x.boots(0, 1, 1);
        judged(x, "b0", 0, 4, STATE);
        judged(x, "a1", NONE, NONE, 3, 1, 1);
    }

    private static void changes() {
        SevenLeagues x = new SevenLeagues();
        x.change(0, true);
        x.change(5, true);
        judged(x, "#0", 0, 5);
        judged(x, "#1b1#0b2", NONE, NONE, 9, 2, 1, 1, 0, 0);
        judged(x, "#1b1#1", 2, 5);
        judged(x, "#1#3c0", NONE, NONE, 2, 1, 0, 0, 0, 1);
        judged(x, "b0#1", 1, 5);
        x.change(5, false);
        judged(x, "#1b1#0", 2, 5, STATE);
        // The wear of BOOTS that were put off is not forgotten.
        x.change(5, true);
        x.boots(0, 1, 2);
        judged(x, "b0b1#1a0#0b0", 5, 4, STATE);
        x.boots(0, 1, 3);
        judged(x, "b0b1#1a0#0b0", NONE, NONE, 1, 4, 3, 1, 0, 0);
    }

    private static void goodWalk() {
        SevenLeagues x = new SevenLeagues();
        x.land(6, 6);
        x.boots(0, 0, 5);
        x.home(35);
        judged(x, "d4e2f0d1", NONE, NONE, 9, 4, 4, 0, 0, 0);
        x.home(0);
        judged(x, "b2d3f4d5", NONE, NONE, 33, 4, 4, 0, 0, 0);
    }

    private static void leads() {
        SevenLeagues x = Due.on(".^./~../...");
        due.is("leads(0, 0)", x.leads(0, 0), Due.set(1));
        due.is("leads(0, 4)", x.leads(0, 4), Due.set(1, 5, 7));
        due.is("leads(1, 4)", x.leads(1, 4), Due.set(0, 2, 6, 8));
        due.is("leads(2, 4)", x.leads(2, 4), 0);
        due.is("leads(3, 0)", x.leads(3, 0), Due.set(2, 6));
        due.is("leads(0, 3), sea", x.leads(0, 3), GONE + UNKNOWN);
        due.is("leads(0, 9)", x.leads(0, 9), GONE + UNKNOWN);
        due.is("leads(0, -1)", x.leads(0, -1), GONE + UNKNOWN);
        due.is("leads(4, 0)", x.leads(4, 0), GONE + UNKNOWN);
        due.is("leads(-1, 0)", x.leads(-1, 0), GONE + UNKNOWN);
        x.land(6, 6);
        x.boots(0, 0, 25);
        due.is("leads of 25 from a corner", x.leads(0, 0), Due.set(5, 22, 27, 30));
        x.boots(0, 0, 50);
        due.is("leads of 50 from a corner", x.leads(0, 5), Due.set(30));
        due.is("leads of 50 from within", x.leads(0, 7), 0);
        x.boots(0, 0, 5);
        due.is("leads of 5, eight", x.leads(0, 14), Due.set(1, 3, 6, 10, 18, 22, 25, 27));
    }

    private static void strides() {
        SevenLeagues x = new SevenLeagues();
        int[][] ways = {{1, 4}, {2, 4}, {3, 0}, {4, 4}, {5, 8}, {7, 0}, {10, 8}, {25, 12}, {49, 4}, {50, 12}, {48, 0}, {36, 4}};
        for (int[] w : ways) {
            x.boots(2, 0, w[0]);
            due.is("strides of " + w[0], x.strides(2), w[1]);
        }
        due.is("strides(-1)", x.strides(-1), UNKNOWN);
        due.is("strides(4)", x.strides(4), UNKNOWN);
        x.land(1, 1);
        due.is("strides on a small land", x.strides(2), 4);
    }
}
