import java.io.File;
import java.lang.reflect.Method;
import java.nio.file.Files;
import java.nio.file.Path;
import java.util.List;
import java.util.Map;
import java.util.Set;
import java.util.TreeSet;
import java.util.regex.Matcher;
import java.util.regex.Pattern;

/** What README.md says is so: the calls of its blocks are made, its tables and its list of tests are compared. */
public final class ReadmeTest {
    private static final Map<String, Long> REFUSALS = Map.of("NONE", (long) GreyDays.NONE, "BAD", (long) GreyDays.BAD,
        "STATE", (long) GreyDays.STATE, "FULL", (long) GreyDays.FULL);
    private static final List<String> FINDINGS = List.of("NULL", "PLACE", "KIND", "SIZE", "STORE");
    private static final Pattern MAKES = Pattern.compile("GreyDays x = new GreyDays\\(\\);.*");
    private static final Pattern TELLS = Pattern.compile("tell\\(x, \"([^\"]*)\"\\);");
    private static final Pattern CALLS = Pattern.compile("x\\.(\\w+)\\(([^)]*)\\); +// (-?\\d+|[A-Z]+)\\b.*");
    private static final Pattern REFUSAL_LINE = Pattern.compile("\\| `([A-Z]+)` *\\| (-\\d+) *\\|[^|]*\\|");
    private static final Pattern FINDING_LINE = Pattern.compile("\\| `([A-Z]+)` *\\| (\\d) *\\| (-\\d+) *\\|[^|]*\\|");

    private static final Set<Long> answered = new TreeSet<>();
    private static int calls = 0;
    private static int wrong = 0;

    private static void hold(boolean holds, String what) {
        if (!holds) {
            wrong++;
            System.out.println("README.md is not so: " + what);
        }
    }

    public static void main(String[] args) throws Exception {
        List<String> lines = Files.readAllLines(Path.of("README.md"));
        blocks(lines);
        tables(lines);
        tests(String.join("\n", lines));
        System.out.println("ReadmeTest: " + calls + " calls, " + wrong + " wrong");
        if (wrong != 0 || calls == 0) {
            System.exit(1);
        }
    }

    private static void blocks(List<String> lines) throws Exception {
        GreyDays x = null;
        boolean inside = false;
        boolean defines = false;
        for (String line : lines) {
            if (line.startsWith("```")) {
                inside = line.equals("```java");
                defines = false;
                continue;
            }
            // The block that defines tell() is what tell() does here.
            defines |= line.startsWith("static void tell(");
            if (!inside || defines) {
                continue;
            }
            Matcher tells = TELLS.matcher(line);
            if (MAKES.matcher(line).matches()) {
                x = new GreyDays();
            } else if (tells.matches()) {
                tell(x, tells.group(1));
            } else {
                call(x, line);
            }
        }
    }

    private static void tell(GreyDays x, String text) {
        for (int i = 0; i < text.length(); i++) {
            x.feed(text.charAt(i));
        }
    }

    private static void call(GreyDays x, String line) throws Exception {
        Matcher m = CALLS.matcher(line);
        if (x == null || !m.matches()) {
            hold(false, "a line that no test can read: " + line);
            return;
        }
        String[] words = m.group(2).isEmpty() ? new String[0] : m.group(2).split(", ");
        Class<?>[] types = new Class<?>[words.length];
        Object[] values = new Object[words.length];
        for (int i = 0; i < words.length; i++) {
            types[i] = int.class;
            values[i] = Integer.parseInt(words[i]);
        }
        Method method = GreyDays.class.getMethod(m.group(1), types);
        long got = ((Number) method.invoke(x, values)).longValue();
        String told = m.group(3);
        Long due = REFUSALS.containsKey(told) ? REFUSALS.get(told) : Long.valueOf(told);
        hold(got == due, line + " answered " + got);
        answered.add(got);
        calls++;
    }

    private static void tables(List<String> lines) {
        Set<String> refusals = new TreeSet<>();
        Set<String> findings = new TreeSet<>();
        for (String line : lines) {
            Matcher refusal = REFUSAL_LINE.matcher(line);
            if (refusal.matches()) {
                hold(Long.valueOf(refusal.group(2)).equals(REFUSALS.get(refusal.group(1))), line);
                refusals.add(refusal.group(1));
            }
            Matcher finding = FINDING_LINE.matcher(line);
            if (finding.matches()) {
                int number = Integer.parseInt(finding.group(2));
                hold(FINDINGS.indexOf(finding.group(1)) == number - 1, line);
                hold(Long.parseLong(finding.group(3)) == -1000010 - number, line);
                hold(answered.contains(-1000010L - number), "no call shows " + line);
                findings.add(finding.group(1));
            }
        }
        hold(refusals.equals(REFUSALS.keySet()), "the refusals are " + refusals);
        hold(findings.equals(new TreeSet<>(FINDINGS)), "the findings are " + findings);
    }

    private static void tests(String page) {
        Set<String> named = new TreeSet<>();
        Matcher m = Pattern.compile("(?m)^- `(\\w+)`: ").matcher(page);
        while (m.find()) {
            named.add(m.group(1) + ".java");
        }
        String[] files = new File("src/test/java").list();
        hold(files != null && named.equals(new TreeSet<>(List.of(files))), "the tests are " + named);
        hold(page.contains("\n    .ci/run\n") && new File(".ci/run").canExecute(), ".ci/run runs the tests");
    }
}
