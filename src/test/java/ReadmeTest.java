import java.io.IOException;
import java.lang.reflect.Method;
import java.lang.reflect.Modifier;
import java.nio.file.Files;
import java.nio.file.Path;
import java.util.regex.Matcher;
import java.util.regex.Pattern;

/** README.md is true: its example answers as it says, and it tells every call. Runs where README.md is. */
public final class ReadmeTest {
    private static final Due due = new Due("ReadmeTest");
    private static final Pattern SAID = Pattern.compile("for \\(char sign : \"([^\"]*)\"\\.toCharArray\\(\\)\\) x\\.say\\(sign\\);");
    private static final Pattern ASKED = Pattern.compile("x\\.(\\w+)\\(([^)]*)\\);\\s*// (-?\\d+)\\b.*");
    private static final Pattern MADE = Pattern.compile("SevenLeagues x = new SevenLeagues\\(\\);.*");

    public static void main(String[] args) throws IOException {
        String page = Files.readString(Path.of("README.md"));
        int begin = page.indexOf("```java\n");
        int end = page.indexOf("```\n", begin + 1);
        due.holds("there is an example", begin >= 0 && end > begin);
        if (due.clean()) {
            example(page.substring(begin, end).split("\n"));
        }
        everyCallIsTold(page);
        due.end();
    }

    private static void example(String[] lines) {
        SevenLeagues x = new SevenLeagues();
        for (int i = 1; i < lines.length; i++) {
            Matcher said = SAID.matcher(lines[i]);
            Matcher asked = ASKED.matcher(lines[i]);
            if (said.matches()) {
                Due.say(x, said.group(1));
            } else if (asked.matches()) {
                due.call(x, "README", Long.parseLong(asked.group(3)), asked.group(1), numbers(asked.group(2)));
            } else {
                due.holds("a line that is known: " + lines[i], lines[i].isEmpty() || MADE.matcher(lines[i]).matches());
            }
        }
    }

    private static long[] numbers(String told) {
        String[] parts = told.isEmpty() ? new String[0] : told.split(", ");
        long[] values = new long[parts.length];
        for (int i = 0; i < parts.length; i++) {
            boolean truth = parts[i].equals("true") || parts[i].equals("false");
            values[i] = truth ? (parts[i].equals("true") ? 1 : 0) : Long.parseLong(parts[i]);
        }
        return values;
    }

    private static void everyCallIsTold(String page) {
        for (Method m : SevenLeagues.class.getDeclaredMethods()) {
            if (Modifier.isPublic(m.getModifiers())) {
                due.holds("README tells " + m.getName(), page.contains("`" + m.getName() + "("));
            }
        }
    }
}
