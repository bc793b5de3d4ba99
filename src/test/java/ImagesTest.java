/** Promises 35 to 37: images, restore, told. */
public final class ImagesTest {
    private static final int OUTSIDE = -2, STATE = -3;
    private static final Due due = new Due("ImagesTest");

    public static void main(String[] args) {
        allComesBack();
        imagesAreApart();
        refused();
        told();
        due.end();
    }

    private static SevenLeagues busy() {
        SevenLeagues x = Due.on(".^~/~../...");
        x.home(4);
        x.change(1, true);
        x.change(8, true);
        for (int b = 0; b < 4; b++) {
            x.boots(b, 0, 10 + b);
            x.boots(b, 1, 20 + b);
        }
        x.minutes(0, 4);
        x.minutes(1, 5);
        x.person(1, 5, 3);
        x.seen(4, 1);
        x.seen(0, 2);
        return x;
    }

    private static void isBusy(SevenLeagues x, String when) {
        String text = ".^~~.....";
        for (int c = 0; c < 9; c++) {
            due.is(when + ": cell(" + c + ")", x.cell(c), text.charAt(c));
        }
        int[] numbers = {3, 3, 4, 4, 5, 2, 2, 2};
        for (int what = 1; what <= 8; what++) {
            due.is(when + ": told(" + what + ")", x.told(what), numbers[what - 1]);
        }
        for (int b = 0; b < 4; b++) {
            due.is(when + ": LEAGUES", x.told(10 + b), 10 + b);
            due.is(when + ": HEELS", x.told(20 + b), 20 + b);
        }
        due.is(when + ": a PERSON's CELL", x.told(40), 5);
        due.is(when + ": a PERSON's BOOTS", x.told(41), 3);
        due.is(when + ": nobody else", x.told(30), OUTSIDE);
        due.is(when + ": where()", x.where(), 0);
    }

    private static void allComesBack() {
        SevenLeagues x = busy();
        Due.say(x, "abc");
        isBusy(x, "at first");
        due.is("image(1)", x.image(1), 1);
        x.land(2, 6);
        x.home(3);
        x.change(2, true);
        for (int b = 0; b < 4; b++) {
            x.boots(b, 0, 1);
            x.boots(b, 1, 1);
        }
        x.minutes(0, 1);
        x.minutes(1, 1);
        x.person(0, 1, 1);
        x.person(1, 1, 1);
        x.seen(3, 9);
        x.say('d');
        due.is("restore(1)", x.restore(1), 1);
        isBusy(x, "restored");
        due.is("the PAD is as it is", x.told(0), 4);
        x.wipe();
        due.is("restore(1) again", x.restore(1), 1);
        isBusy(x, "restored again");
        due.is("the PAD stays empty", x.told(0), 0);
        due.is("seen, a third", x.seen(4, 1), 3);
        due.is("leave(1)", x.leave(1), 0);
        x.forget();
        x.seen(4, 1);
        due.is("where() on the land restored", x.where(), Due.set(1, 5, 7));
    }

    private static void imagesAreApart() {
        SevenLeagues x = new SevenLeagues();
        x.image(0);
        x.home(5);
        x.image(1);
        x.home(9);
        x.restore(0);
        due.is("HOME of 0", x.told(3), 0);
        x.home(7);
        x.restore(0);
        due.is("HOME of 0, kept", x.told(3), 0);
        x.restore(1);
        due.is("HOME of 1", x.told(3), 5);
        x.home(11);
        due.is("image(0) anew", x.image(0), 1);
        x.restore(1);
        x.restore(0);
        due.is("HOME of 0 anew", x.told(3), 11);
    }

    private static void refused() {
        SevenLeagues x = new SevenLeagues();
        due.is("image(-1)", x.image(-1), OUTSIDE);
        due.is("image(2)", x.image(2), OUTSIDE);
        due.is("restore(-1)", x.restore(-1), OUTSIDE);
        due.is("restore(2)", x.restore(2), OUTSIDE);
        due.is("restore(0), was not", x.restore(0), STATE);
        x.image(0);
        due.is("restore(1), was not", x.restore(1), STATE);
        due.is("restore(0)", x.restore(0), 1);
    }

    private static void told() {
        SevenLeagues x = new SevenLeagues();
        x.person(0, 3, 1);
        x.person(3, 15, 2);
        int[] outside = {-1, 9, 14, 19, 24, 29, 32, 39, 40, 41, 50, 51, 62, 70, 71, 100,
            Integer.MIN_VALUE, Integer.MAX_VALUE};
        for (int what : outside) {
            due.is("told(" + what + ")", x.told(what), OUTSIDE);
        }
        due.is("told(30)", x.told(30), 3);
        due.is("told(31)", x.told(31), 1);
        due.is("told(60)", x.told(60), 15);
        due.is("told(61)", x.told(61), 2);
        due.is("told(6)", x.told(6), 9);
        x.leave(3);
        due.is("told(60), gone", x.told(60), OUTSIDE);
    }
}
