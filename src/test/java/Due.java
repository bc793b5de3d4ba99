import java.lang.reflect.InvocationTargetException;
import java.lang.reflect.Method;
import java.lang.reflect.Modifier;

/** What the tests share: rows of answers that are due, counted, and the exit code. */
final class Due {
    static final int UNKNOWN = -1, OUTSIDE = -2, STATE = -3, FULL = -4, NO = -5, NONE = -6;
    static final long GONE = -1000000000000000000L;
    static final int LOW = Integer.MIN_VALUE, HIGH = Integer.MAX_VALUE;

    private final String name;
    private int asked;
    private int wrong;

    Due(String name) {
        this.name = name;
    }

    void is(String call, long got, long want) {
        asked++;
        if (got != want) {
            wrong++;
            System.out.println(name + ": " + call + " answered " + got + ", due is " + want);
        }
    }

    void holds(String what, boolean so) {
        is(what, so ? 1 : 0, 1);
    }

    /** Asks one call of the face by its name; a truth is told as 1 or 0. */
    void call(SevenLeagues x, String why, long want, String name, long... values) {
        is(why + ": " + row(name, values), answer(x, name, values), want);
    }

    /** The same call is refused; GONE goes with the refusal, if its answer is long. */
    void refused(SevenLeagues x, String why, int refusal, String name, long... values) {
        boolean isLong = method(name).getReturnType() == long.class;
        call(x, why, isLong ? GONE + refusal : refusal, name, values);
    }

    static String row(String name, long... values) {
        StringBuilder row = new StringBuilder(name).append('(');
        for (int i = 0; i < values.length; i++) {
            row.append(i > 0 ? ", " : "").append(values[i]);
        }
        return row.append(')').toString();
    }

    static long answer(SevenLeagues x, String name, long... values) {
        Method method = method(name);
        Class<?>[] types = method.getParameterTypes();
        Object[] given = new Object[types.length];
        for (int i = 0; i < types.length; i++) {
            if (types[i] == boolean.class) {
                given[i] = values[i] != 0;
            } else if (types[i] == long.class) {
                given[i] = values[i];
            } else {
                given[i] = Math.toIntExact(values[i]);
            }
        }
        try {
            return ((Number) method.invoke(x, given)).longValue();
        } catch (IllegalAccessException | InvocationTargetException e) {
            throw new IllegalStateException(row(name, values), e);
        }
    }

    private static Method method(String name) {
        for (Method m : SevenLeagues.class.getDeclaredMethods()) {
            if (m.getName().equals(name) && Modifier.isPublic(m.getModifiers())) {
                return m;
            }
        }
        throw new IllegalArgumentException(name);
    }

    boolean clean() {
        return wrong == 0;
    }

    void end() {
        System.out.println(name + ": " + asked + " answers, " + wrong + " not as due");
        if (wrong != 0 || asked == 0) {
            System.exit(1);
        }
    }

    /** Says a text on the PAD. */
    static void say(SevenLeagues x, String text) {
        for (int i = 0; i < text.length(); i++) {
            x.say(text.charAt(i));
        }
    }

    /** A new object with a land of this text, ROWS parted by a slash. */
    static SevenLeagues on(String rows) {
        SevenLeagues x = new SevenLeagues();
        String[] row = rows.split("/");
        x.land(row.length, row[0].length());
        say(x, rows.replace("/", ""));
        x.lay();
        return x;
    }

    /** The set of some CELLS. */
    static long set(int... cells) {
        long set = 0;
        for (int cell : cells) {
            set |= 1L << cell;
        }
        return set;
    }
}
