/** What the tests share: rows of answers that are due, counted, and the exit code. */
final class Due {
    private final String name;
    private int asked;
    private int wrong;

    Due(String name) {
        this.name = name;
    }

    void is(String call, long got, long want) {
        asked++;
        if (got != want) {
            wrong++;
            System.out.println(name + ": " + call + " answered " + got + ", due is " + want);
        }
    }

    void holds(String what, boolean so) {
        is(what, so ? 1 : 0, 1);
    }

    boolean clean() {
        return wrong == 0;
    }

    void end() {
        System.out.println(name + ": " + asked + " answers, " + wrong + " not as due");
        if (wrong != 0 || asked == 0) {
            System.exit(1);
        }
    }

    /** Says a text on the PAD. */
    static void say(SevenLeagues x, String text) {
        for (int i = 0; i < text.length(); i++) {
            x.say(text.charAt(i));
        }
    }

    /** A new object with a land of this text, ROWS parted by a slash. */
    static SevenLeagues on(String rows) {
        SevenLeagues x = new SevenLeagues();
        String[] row = rows.split("/");
        x.land(row.length, row[0].length());
        say(x, rows.replace("/", ""));
        x.lay();
        return x;
    }

    /** The set of some CELLS. */
    static long set(int... cells) {
        long set = 0;
        for (int cell : cells) {
            set |= 1L << cell;
        }
        return set;
    }
}
