import java.io.IOException;
import java.lang.reflect.Constructor;
import java.lang.reflect.Field;
import java.lang.reflect.Method;
import java.lang.reflect.Modifier;
import java.nio.file.Files;
import java.nio.file.Path;
import java.util.Set;
import java.util.TreeSet;
import java.util.regex.Matcher;
import java.util.regex.Pattern;

/** The face of the document, and those rules of LANGUAGE.md that can be seen from the class and from its text. */
public final class RulesTest {
    private static final Due due = new Due("RulesTest");

    private static final String[] FACE = {
        "int land(int,int)", "int say(int)", "int wipe()", "int fault(int)", "int lay()", "int cell(int)", "int home(int)",
        "int change(int,boolean)", "int boots(int,int,int)", "int minutes(int,int)", "int judge(int)",
        "long leads(int,int)", "int strides(int)", "int far(int,int,int,int)", "long reached(int,int)",
        "int worn(int,int,int)", "int changed(int,int,int,int,int)", "int time(int,int,int)", "int errands(int,long,int)",
        "int person(int,int,int)", "int leave(int)", "int meet(int)", "int made(long,int,int)", "int seen(int,int)",
        "int forget()", "long where()", "int ask(int)", "long after(int,int,int)", "long ways(int,int,int,int)",
        "long chance(int,int,int,int,int)", "int guard(int,int,int,int,int)", "int posts(int,int)",
        "int year(int,int,int,int)", "int image(int)", "int restore(int)", "int told(int)"};

    private static final String[] CONSTANTS = {"UNKNOWN", "OUTSIDE", "STATE", "FULL", "NO", "NONE", "GONE"};

    private static final String[] FORBIDDEN = {"throw", "throws", "try", "catch", "finally", "synchronized", "assert",
        "volatile", "transient", "native", "strictfp", "double", "float", "Exact", "Random", "nanoTime",
        "currentTimeMillis", "Thread", "hashCode", "toString", "getClass", "identityHashCode", "Object", "var"};

    public static void main(String[] args) throws IOException {
        face();
        for (Class<?> c : SevenLeagues.class.getDeclaredClasses()) {
            inside(c);
        }
        due.holds("at most twelve classes", SevenLeagues.class.getDeclaredClasses().length + 1 <= 12);
        if (args.length > 0) {
            text(Files.readString(Path.of(args[0])));
        }
        due.end();
    }

    private static String signature(Method m) {
        StringBuilder s = new StringBuilder(m.getReturnType().getName() + " " + m.getName() + "(");
        Class<?>[] types = m.getParameterTypes();
        for (int i = 0; i < types.length; i++) {
            s.append(i > 0 ? "," : "").append(types[i].getName());
        }
        return s.append(")").toString();
    }

    private static void face() {
        Class<?> c = SevenLeagues.class;
        due.is("modifiers of the class", c.getModifiers(), Modifier.PUBLIC | Modifier.FINAL);
        Set<String> open = new TreeSet<>();
        Set<String> openNames = new TreeSet<>();
        Set<String> hiddenNames = new TreeSet<>();
        for (Method m : c.getDeclaredMethods()) {
            if (Modifier.isPrivate(m.getModifiers())) {
                hiddenNames.add(m.getName());
            } else {
                due.is("modifiers of " + m.getName(), m.getModifiers(), Modifier.PUBLIC);
                open.add(signature(m));
                openNames.add(m.getName());
            }
        }
        due.holds("the methods of the face", open.equals(Set.of(FACE)));
        hiddenNames.retainAll(openNames);
        due.holds("no private method bears a public name", hiddenNames.isEmpty());
        Set<String> fields = new TreeSet<>();
        for (Field f : c.getDeclaredFields()) {
            if (!Modifier.isPrivate(f.getModifiers())) {
                fields.add(f.getName());
                due.is("modifiers of " + f.getName(), f.getModifiers(), Modifier.PUBLIC | Modifier.STATIC | Modifier.FINAL);
            }
        }
        due.holds("the constants of the face", fields.equals(Set.of(CONSTANTS)));
        Constructor<?>[] makers = c.getDeclaredConstructors();
        due.is("constructors", makers.length, 1);
        due.is("the constructor is public", makers[0].getModifiers(), Modifier.PUBLIC);
        due.is("the constructor takes nothing", makers[0].getParameterCount(), 0);
        fieldsOf(c);
    }

    private static void inside(Class<?> c) {
        due.holds(c.getName() + " is static", Modifier.isStatic(c.getModifiers()));
        due.holds(c.getName() + " is not public",
            !Modifier.isPublic(c.getModifiers()) && !Modifier.isProtected(c.getModifiers()));
        fieldsOf(c);
        Set<String> face = new TreeSet<>();
        for (String s : FACE) {
            face.add(s.substring(s.indexOf(' ') + 1, s.indexOf('(')));
        }
        for (Method m : c.getDeclaredMethods()) {
            due.holds(c.getName() + "." + m.getName() + " bears a name of its own", !face.contains(m.getName()));
            due.holds(c.getName() + "." + m.getName() + " takes at most seven", m.getParameterCount() <= 7);
        }
    }

    private static void fieldsOf(Class<?> c) {
        int own = 0;
        for (Field f : c.getDeclaredFields()) {
            if (Modifier.isStatic(f.getModifiers())) {
                due.holds(c.getName() + "." + f.getName() + " is final", Modifier.isFinal(f.getModifiers()));
            } else {
                own++;
            }
        }
        due.holds(c.getName() + " has at most twenty fields", own <= 20);
    }

    private static void text(String source) {
        due.holds("signs are ASCII", source.chars().allMatch(s -> s == '\n' || s >= 32 && s < 127));
        String code = source.replaceAll("(?s)/\\*.*?\\*/", "").replaceAll("//[^\n]*", "");
        for (String word : FORBIDDEN) {
            due.holds("no " + word, !Pattern.compile("\\b" + word + "\\b").matcher(code).find());
        }
        due.holds("no lambda", !code.contains("->"));
        due.holds("no method reference", !code.contains("::"));
        due.holds("no annotation", !code.contains("@"));
        due.holds("no package line", !Pattern.compile("\\bpackage\\b").matcher(code).find());
        due.holds("no static block", !Pattern.compile("\\bstatic\\s*\\{").matcher(code).find());
        due.holds("no text is joined by +", !Pattern.compile("\"\\s*\\+|\\+\\s*\"").matcher(code).find());
        due.holds("no fill of truths", !Pattern.compile("Arrays\\.fill\\([^)]*(true|false)\\)").matcher(code).find());
        Matcher library = Pattern.compile("\\b(Math|Arrays|System|Long|Integer)\\.(\\w+)").matcher(code);
        Set<String> known = Set.of("Math.max", "Math.min", "Arrays.fill", "System.arraycopy", "Long.bitCount",
            "Integer.bitCount");
        while (library.find()) {
            due.holds("the library knows " + library.group(), known.contains(library.group()));
        }
        methodsAreShort(code);
    }

    /** A method begins with a line that opens a brace four or eight deep, and ends with that brace's line. */
    private static void methodsAreShort(String code) {
        String[] lines = code.split("\n");
        Pattern head = Pattern.compile("^( {4}| {8})(?! )[^=;]*\\)\\s*\\{$");
        for (int i = 0; i < lines.length; i++) {
            Matcher m = head.matcher(lines[i]);
            if (!m.matches()) {
                continue;
            }
            int end = i + 1;
            while (end < lines.length && !lines[end].equals(m.group(1) + "}")) {
                end++;
            }
            due.holds("short: " + lines[i].trim() + " has " + (end - i + 1) + " lines", end - i + 1 <= 60);
        }
    }
}
