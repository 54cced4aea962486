import java.io.IOException;
import java.lang.reflect.Constructor;
import java.lang.reflect.Field;
import java.lang.reflect.InvocationTargetException;
import java.lang.reflect.Method;
import java.lang.reflect.Modifier;
import java.nio.file.Files;
import java.nio.file.Path;
import java.util.Arrays;
import java.util.Set;
import java.util.TreeSet;
import java.util.regex.Matcher;
import java.util.regex.Pattern;

/** The face of the document, the rules of LANGUAGE.md that can be read off, and that no call throws for any arguments. */
public final class RulesTest {
    private static final Path SOURCE = Path.of("src/main/java/GreyDays.java");
    private static final String[] FACE = {
        "int alike(int,int,int)", "int as(int,int)", "int ask(int,int)", "int bestPaint(int)", "long bet(int,int,int)",
        "int copy(int,int,int,int,int)", "int count(int)", "int days(int)", "int drop(int)", "int dyes(int,int)",
        "int fault()", "int feed(int)", "int harm(int)", "int harms(int)", "int image(int)", "int kind(int)",
        "int like(int,int)", "int look(int,int)", "int looks(int)", "int merged(int,int)", "int miss(int,int)",
        "int missing(int)", "int paint(int,int)", "int pair(int,int)", "int parted(int,int,int)", "int restore(int)",
        "int row(int,int,int)", "int seen(int,int)", "int set(int,int,int)", "int shelf(int,int)", "int status()",
        "int tests(int,int,int,int)", "int thief(int)", "int thing(int,int)", "int town()", "int trace(int)",
        "int undo()", "int week(int)", "int year(int,int,int)"};
    private static final String[] FORBIDDEN = {
        "\\bthrow\\b", "\\btry\\b", "\\bcatch\\b", "\\bsynchronized\\b", "\\bassert\\b", "\\bpublic\\s+static\\s+(?!final)",
        "->", "::", "Exact\\b", "\\bException\\b", "\\bpackage\\b", "\\bequals\\b", "\\bhashCode\\b", "\\btoString\\b",
        "\\bprotected\\b", "\\bvar\\b", "\\bsealed\\b", "\\bRandom\\b", "\\bThread\\b", "\\bSystem\\.(?!arraycopy)", "[^\\x00-\\x7f]"};
    private static final int[] EDGES = {Integer.MIN_VALUE, -1000001, -2, -1, 0, 1, 2, 6, 7, 8, 20, 24, 31, 40, 41, 100, 200,
        255, 999999, Integer.MAX_VALUE};

    private static int wrong = 0;

    private static void hold(boolean holds, String what) {
        if (!holds) {
            wrong++;
            System.out.println("does not hold: " + what);
        }
    }

    public static void main(String[] args) throws Exception {
        face();
        nested();
        words();
        lengths();
        noCallThrows(null);
        noCallThrows("c0,1,2,3,4,5,0;");
        noCallThrows("c0,1,2,3,4,5,0;d7,0;d6,1;w7,2;s7,1;i7,0;f9,3;d19,0;m0,1,5;m0,2,3;m3,4,7;m5,6,2;");
        System.out.println("RulesTest: " + wrong + " wrong");
        if (wrong != 0) {
            System.exit(1);
        }
    }

    private static void face() {
        Class<?> c = GreyDays.class;
        hold(Modifier.isPublic(c.getModifiers()) && Modifier.isFinal(c.getModifiers()), "public and final");
        Constructor<?>[] constructors = c.getDeclaredConstructors();
        hold(constructors.length == 1 && constructors[0].getParameterCount() == 0
            && Modifier.isPublic(constructors[0].getModifiers()), "one public constructor");
        Set<String> found = new TreeSet<>();
        Set<String> names = new TreeSet<>();
        for (Method m : c.getDeclaredMethods()) {
            if (Modifier.isPublic(m.getModifiers())) {
                hold(!Modifier.isStatic(m.getModifiers()), m + " is of an object");
                found.add(m.getReturnType() + " " + m.getName() + Arrays.toString(m.getParameterTypes())
                    .replace(" ", "").replace('[', '(').replace(']', ')'));
                names.add(m.getName());
            }
        }
        Set<String> wanted = new TreeSet<>(Arrays.asList(FACE));
        hold(found.equals(wanted), "the face " + found + " is " + wanted);
        for (Method m : c.getDeclaredMethods()) {
            if (!Modifier.isPublic(m.getModifiers())) {
                hold(Modifier.isPrivate(m.getModifiers()) || m.isSynthetic(), m + " is private");
                hold(!names.contains(m.getName()), m + " does not bear a public name");
            }
        }
        for (Field f : c.getDeclaredFields()) {
            boolean isConstant = Set.of("NONE", "BAD", "STATE", "FULL").contains(f.getName());
            hold(isConstant == Modifier.isPublic(f.getModifiers()), f + " is public only as a constant");
            hold(isConstant || Modifier.isPrivate(f.getModifiers()), f + " is private");
        }
        for (Class<?> inside : c.getDeclaredClasses()) {
            for (Method m : inside.getDeclaredMethods()) {
                hold(!names.contains(m.getName()), m + " does not bear a public name");
                hold(m.getParameterCount() <= 7, m + " takes seven at most");
            }
        }
    }

    private static void nested() {
        Class<?>[] classes = GreyDays.class.getDeclaredClasses();
        hold(classes.length <= 12, "twelve classes at most: " + classes.length);
        for (Class<?> inside : classes) {
            hold(Modifier.isStatic(inside.getModifiers()), inside + " is static");
            hold(!Modifier.isPublic(inside.getModifiers()), inside + " is not public");
            int fields = 0;
            for (Field f : inside.getDeclaredFields()) {
                hold(!Modifier.isStatic(f.getModifiers()) || Modifier.isFinal(f.getModifiers()), f + " is final");
                fields += Modifier.isStatic(f.getModifiers()) ? 0 : 1;
            }
            hold(fields <= 20, inside + " has twenty fields at most");
        }
    }

    private static String code() throws IOException {
        String all = Files.readString(SOURCE);
        return all.replaceAll("(?s)/\\*.*?\\*/", "").replaceAll("//[^\n]*", "");
    }

    private static void words() throws IOException {
        String code = code();
        for (String word : FORBIDDEN) {
            Matcher m = Pattern.compile(word).matcher(code);
            hold(!m.find(), "no " + word);
        }
        Matcher imports = Pattern.compile("import ([^;]*);").matcher(code);
        while (imports.find()) {
            hold(Set.of("java.util.Arrays", "java.util.ArrayList", "java.util.List").contains(imports.group(1)), imports.group());
        }
    }

    private static void lengths() throws IOException {
        String[] lines = Files.readString(SOURCE).split("\n");
        int start = -1;
        for (int i = 0; i < lines.length; i++) {
            if (lines[i].matches("^( {4}| {8})[a-zA-Z].*\\) \\{$") && !lines[i].contains(" class ")) {
                start = i;
            }
            if (lines[i].matches("^( {4}| {8})\\}$") && start >= 0) {
                hold(i - start <= 60, "a method of sixty lines at most, line " + (start + 1));
                start = -1;
            }
        }
    }

    /** Every call with every mix of edges (of long rows of arguments a part), 512 calls to an object at most. */
    private static void noCallThrows(String text) throws Exception {
        for (Method m : GreyDays.class.getDeclaredMethods()) {
            if (!Modifier.isPublic(m.getModifiers())) {
                continue;
            }
            int n = m.getParameterCount();
            long mixes = (long) Math.pow(EDGES.length, n);
            long step = Math.max(1, mixes / 20000) | 1;
            GreyDays x = null;
            int calls = 0;
            for (long mix = 0; mix < mixes; mix += step) {
                if (calls % 300 == 0) {
                    x = told(text);
                }
                calls++;
                Object[] values = new Object[n];
                long rest = mix;
                for (int i = 0; i < n; i++) {
                    values[i] = EDGES[(int) (rest % EDGES.length)];
                    rest /= EDGES.length;
                }
                try {
                    m.invoke(x, values);
                } catch (InvocationTargetException e) {
                    hold(false, m.getName() + Arrays.toString(values) + " threw " + e.getCause());
                    return;
                }
            }
        }
    }

    private static GreyDays told(String text) {
        GreyDays x = new GreyDays();
        x.row(0, 0, 8);
        x.row(1, 0, 40);
        x.row(2, 2, 0);
        for (int i = 0; text != null && i < text.length(); i++) {
            x.feed(text.charAt(i));
        }
        if (text != null) {
            x.town();
            x.image(0);
            x.days(20);
        }
        return x;
    }
}
