import java.math.BigInteger;
import java.util.ArrayDeque;
import java.util.ArrayList;
import java.util.Arrays;
import java.util.Deque;
import java.util.HashSet;
import java.util.List;
import java.util.Random;
import java.util.Set;
import java.util.TreeSet;

/** Long runs of drawn calls, answered twice: by GreyDays, and by a slow model that is written another way. */
public final class ModelTest {
    private static final int NONE = -1000000, BAD = -1000001, STATE = -1000002, FULL = -1000003;
    private static final int RUNS = 1500, CALLS = 512;

    /** A TOWN as plain texts and lists; each ACT is undone by the TOWN that was kept ahead of it. */
    private static final class State {
        int[] week = new int[7];
        List<int[]> things = new ArrayList<>();
        String sorts = "";
        List<int[]> pairs = new ArrayList<>();
        int day = 0;

        State copy() {
            State s = new State();
            s.week = week.clone();
            for (int[] t : things) {
                s.things.add(t.clone());
            }
            s.sorts = sorts;
            for (int[] p : pairs) {
                s.pairs.add(p.clone());
            }
            s.day = day;
            return s;
        }

        int look(int i, Set<Integer> gone) {
            TreeSet<Integer> left = new TreeSet<>();
            for (int c = 0; c < 5; c++) {
                if ((things.get(i)[0] & 1 << c) != 0 && !gone.contains(c)) {
                    left.add(c);
                }
            }
            switch (sorts.charAt(i)) {
                case 'i': return things.get(i)[0];
                case 'f': return 0;
                case 'w':
                    if (left.size() >= 2) {
                        left.pollFirst();
                    }
                    return sum(left);
                case 's': return sum(left) + 32 + 32 * things.get(i)[1];
                default: return sum(left);
            }
        }

        static int sum(Set<Integer> colours) {
            int sum = 0;
            for (int c : colours) {
                sum += (int) Math.pow(2, c);
            }
            return sum;
        }

        static Set<Integer> gone(int colour) {
            return colour == 5 ? Set.of() : Set.of(colour);
        }

        Set<Integer> goneIn(int d) {
            return gone(week[(day + d) % 7]);
        }

        int harm(Set<Integer> gone) {
            int sum = 0;
            for (int[] p : pairs) {
                sum += look(p[0], gone) == look(p[1], gone) ? p[2] : 0;
            }
            return sum;
        }

        int weekHarm() {
            int sum = 0;
            for (int d = 0; d < 7; d++) {
                sum += harm(goneIn(d));
            }
            return sum;
        }
    }

    private static final class Fault extends Exception {
        private static final long serialVersionUID = 1;
        final int number, place;

        Fault(int number, int place) {
            this.number = number;
            this.place = place;
        }
    }

    /** Reads a text by cutting it into TOKENS ahead of all else. */
    private static final class Parser {
        final List<String> tokens = new ArrayList<>();
        final List<Integer> places = new ArrayList<>();
        int at = 0;

        Parser(String text) {
            int i = 0;
            while (i < text.length()) {
                int end = i + 1;
                if (Character.isDigit(text.charAt(i))) {
                    while (end < text.length() && Character.isDigit(text.charAt(end))) {
                        end++;
                    }
                }
                tokens.add(text.substring(i, end));
                places.add(i);
                i = end;
            }
            tokens.add("END");
            places.add(text.length());
        }

        Fault fault(int number, int back) {
            return new Fault(number, places.get(at - back));
        }

        void expect(String token) throws Fault {
            if (!tokens.get(at).equals(token)) {
                throw fault(1, 0);
            }
            at++;
        }

        int number(int least, int most) throws Fault {
            if (!tokens.get(at).matches("[0-9]{1,2}")) {
                throw fault(1, 0);
            }
            int n = Integer.parseInt(tokens.get(at));
            if (n < least || n > most) {
                throw fault(2, 0);
            }
            at++;
            return n;
        }

        State state() throws Fault {
            State s = new State();
            expect("c");
            for (int i = 0; i < 7; i++) {
                s.week[i] = number(0, 5);
                expect(i < 6 ? "," : ";");
            }
            while (tokens.get(at).matches("[dwsif]")) {
                if (s.things.size() == 7) {
                    throw fault(3, 0);
                }
                s.sorts += tokens.get(at++);
                int mix = number(0, 31);
                expect(",");
                s.things.add(new int[] {mix, number(0, 3)});
                expect(";");
            }
            while (tokens.get(at).equals("m")) {
                if (s.pairs.size() == 8) {
                    throw fault(3, 0);
                }
                at++;
                int a = number(0, s.things.size() - 1);
                expect(",");
                int b = number(0, s.things.size() - 1);
                for (int[] p : s.pairs) {
                    if (Set.of(p[0], p[1]).contains(a) && Set.of(p[0], p[1]).contains(b)) {
                        throw fault(2, 1);
                    }
                }
                if (a == b) {
                    throw fault(2, 1);
                }
                expect(",");
                s.pairs.add(new int[] {a, b, number(1, 20)});
                expect(";");
            }
            expect("END");
            return s;
        }
    }

    private static final class Model {
        final int[][] rows = new int[8][];
        final int[] lanes = new int[8];
        final StringBuilder tape = new StringBuilder();
        final Deque<State> before = new ArrayDeque<>();
        final State[] images = new State[2];
        State s = null;
        int fault = 0, status = 0;
        List<Integer> trace = new ArrayList<>();

        int found(int number) {
            status = number;
            return -1000010 - number;
        }

        int fine(int answer) {
            status = 0;
            return answer;
        }

        int row(int r, int lane, int n) {
            if (r < 0 || r > 7 || lane < 0 || lane > 2 || n > 40) {
                return BAD;
            }
            if (n < 0) {
                return found(4);
            }
            rows[r] = new int[n];
            lanes[r] = lane;
            return fine(n);
        }

        int set(int r, int i, int v) {
            if (r < 0 || r > 7) {
                return BAD;
            }
            if (rows[r] == null) {
                return found(1);
            }
            if (i < 0 || i >= rows[r].length) {
                return found(2);
            }
            int bits = new int[] {8, 16, 32}[lanes[r]];
            rows[r][i] = v << 32 - bits >> 32 - bits;
            return fine(rows[r][i]);
        }

        int copy(int a, int i, int b, int j, int n) {
            if (a < 0 || a > 7 || b < 0 || b > 7) {
                return BAD;
            }
            if (rows[a] == null || rows[b] == null) {
                return found(1);
            }
            if (lanes[a] != lanes[b]) {
                return found(5);
            }
            if (i < 0 || j < 0 || n < 0 || (long) i + n > rows[a].length || (long) j + n > rows[b].length) {
                return found(2);
            }
            int[] ahead = rows[a].clone();
            for (int k = 0; k < n; k++) {
                rows[b][j + k] = ahead[i + k];
            }
            return fine(n);
        }

        int drop(int r) {
            if (r < 0 || r > 7) {
                return BAD;
            }
            if (rows[r] == null) {
                return found(1);
            }
            int n = rows[r].length;
            rows[r] = null;
            return fine(n);
        }

        int feed(int letter) {
            if (letter < 0 || letter > 255) {
                return BAD;
            }
            if (tape.length() == 120) {
                return FULL;
            }
            return tape.append((char) letter).length();
        }

        int town() {
            Parser p = new Parser(tape.toString());
            tape.setLength(0);
            try {
                s = p.state();
                before.clear();
                return s.things.size();
            } catch (Fault f) {
                fault = f.number;
                return -1000100 - f.place;
            }
        }

        int undo() {
            if (before.isEmpty()) {
                return STATE;
            }
            s = before.removeLast();
            return before.size();
        }

        void act() {
            before.addLast(s.copy());
            if (before.size() > 24) {
                before.removeFirst();
            }
        }

        int days(int n) {
            if (s == null) {
                return STATE;
            }
            if (n < 1 || n > 24) {
                return BAD;
            }
            if (s.day + n > 999) {
                return FULL;
            }
            for (int i = 0; i < n; i++) {
                act();
                s.day++;
            }
            return s.day;
        }

        boolean no(int thing) {
            return s == null || thing < 0 || thing >= s.things.size();
        }

        int paint(int thing, int mix) {
            if (no(thing) || mix < 0 || mix > 31) {
                return BAD;
            }
            if ("if".indexOf(s.sorts.charAt(thing)) >= 0) {
                return STATE;
            }
            act();
            int was = s.things.get(thing)[0];
            s.things.get(thing)[0] = mix;
            return was;
        }

        int miss(int weekday, int colour) {
            if (s == null) {
                return STATE;
            }
            if (weekday < 0 || weekday > 6 || colour < 0 || colour > 5) {
                return BAD;
            }
            act();
            int was = s.week[weekday];
            s.week[weekday] = colour;
            return was;
        }

        int thing(int thing, int what) {
            if (no(thing) || what < 0 || what > 3) {
                return BAD;
            }
            if (what < 2) {
                return s.things.get(thing)[what];
            }
            if (what == 2) {
                return s.look(thing, s.goneIn(0));
            }
            int sum = 0;
            for (int[] p : s.pairs) {
                sum += p[0] == thing || p[1] == thing ? p[2] : 0;
            }
            return sum;
        }

        int missing(int weekday) {
            return s == null ? STATE : weekday < 0 || weekday > 6 ? BAD : s.week[weekday];
        }

        int pair(int a, int b) {
            if (no(a) || no(b) || a == b) {
                return BAD;
            }
            for (int[] p : s.pairs) {
                if (p[0] == a && p[1] == b || p[0] == b && p[1] == a) {
                    return p[2];
                }
            }
            return 0;
        }

        static Set<Integer> colours(int set) {
            Set<Integer> colours = new HashSet<>();
            for (int c = 0; c < 5; c++) {
                if ((set >> c) % 2 == 1) {
                    colours.add(c);
                }
            }
            return colours;
        }

        int look(int thing, int set) {
            return no(thing) || set < 0 || set > 31 ? BAD : s.look(thing, colours(set));
        }

        static boolean far(int d) {
            return d < 0 || d > 100;
        }

        boolean same(int a, int b, int d) {
            return s.look(a, s.goneIn(d)) == s.look(b, s.goneIn(d));
        }

        int alike(int a, int b, int d) {
            return no(a) || no(b) || a == b || far(d) ? BAD : same(a, b, d) ? 1 : 0;
        }

        int like(int thing, int d) {
            if (no(thing) || far(d)) {
                return BAD;
            }
            int bits = 0;
            for (int i = 0; i < s.things.size(); i++) {
                bits += same(thing, i, d) ? 1 << i : 0;
            }
            return bits;
        }

        int looks(int d) {
            if (s == null) {
                return STATE;
            }
            if (far(d)) {
                return BAD;
            }
            Set<Integer> seen = new HashSet<>();
            for (int i = 0; i < s.things.size(); i++) {
                seen.add(s.look(i, s.goneIn(d)));
            }
            return seen.size();
        }

        int harm(int d) {
            return s == null ? STATE : far(d) ? BAD : s.harm(s.goneIn(d));
        }

        int harms(int n) {
            if (s == null) {
                return STATE;
            }
            if (n < 1 || n > 100) {
                return BAD;
            }
            int sum = 0;
            for (int d = n - 1; d >= 0; d--) {
                sum += harm(d);
            }
            return sum;
        }

        int week(int what) {
            if (s == null) {
                return STATE;
            }
            if (what != 0 && what != 1) {
                return BAD;
            }
            int bits = 0;
            int worst = 6;
            for (int d = 6; d >= 0; d--) {
                bits += harm(d) == 0 ? 1 << d : 0;
                worst = harm(d) >= harm(worst) ? d : worst;
            }
            return what == 0 ? bits : worst;
        }

        int bestPaint(int what) {
            if (s == null) {
                return STATE;
            }
            if (what != 0 && what != 1) {
                return BAD;
            }
            int[] best = {NONE, NONE};
            for (int i = s.things.size() - 1; i >= 0; i--) {
                for (int mix = 31; mix >= 1 && "dws".indexOf(s.sorts.charAt(i)) >= 0; mix--) {
                    State other = s.copy();
                    other.things.get(i)[0] = mix;
                    int harm = other.weekHarm();
                    if (best[0] == NONE || harm <= best[1]) {
                        best = new int[] {32 * i + mix, harm};
                    }
                }
            }
            return best[what];
        }

        boolean clash(int a, int b) {
            for (int colour : s.week) {
                State two = new State();
                two.sorts = "dd";
                two.things.add(new int[] {a, 0});
                two.things.add(new int[] {b, 0});
                if (two.look(0, State.gone(colour)) == two.look(1, State.gone(colour))) {
                    return true;
                }
            }
            return false;
        }

        int dyes(int n, int k) {
            if (s == null) {
                return STATE;
            }
            if (n < 1 || n > 6 || k < -1 || k > n - 1) {
                return BAD;
            }
            boolean[][] clash = new boolean[32][32];
            int pairs = 0;
            for (int a = 1; a < 32; a++) {
                for (int b = a + 1; b < 32; b++) {
                    clash[a][b] = clash(a, b);
                    pairs += clash[a][b] ? 0 : 1;
                }
            }
            if (k == -1) {
                return pairs;
            }
            // All rising rows in their order, until one has no clash.
            int[] row = new int[n];
            for (int i = 0; i < n; i++) {
                row[i] = i + 1;
            }
            while (clashes(row, clash)) {
                int i = n - 1;
                while (i >= 0 && row[i] == 31 - (n - 1 - i)) {
                    i--;
                }
                if (i < 0) {
                    return NONE;
                }
                row[i]++;
                for (int j = i + 1; j < n; j++) {
                    row[j] = row[j - 1] + 1;
                }
            }
            return row[k];
        }

        static boolean clashes(int[] row, boolean[][] clash) {
            for (int i = 0; i < row.length; i++) {
                for (int j = i + 1; j < row.length; j++) {
                    if (clash[row[i]][row[j]]) {
                        return true;
                    }
                }
            }
            return false;
        }

        int thief(int what) {
            if (s == null) {
                return STATE;
            }
            if (what != 0 && what != 1) {
                return BAD;
            }
            int[] best = {NONE, NONE};
            for (int key = 48; key >= 0; key--) {
                if (key % 7 < s.things.size()) {
                    int others = -1;
                    for (int i = 0; i < s.things.size(); i++) {
                        others += same(key % 7, i, key / 7) ? 1 : 0;
                    }
                    best = others >= best[1] ? new int[] {key, others} : best;
                }
            }
            return best[what];
        }

        int seen(int r, int i) {
            if (s == null) {
                return STATE;
            }
            if (r < 0 || r > 7) {
                return BAD;
            }
            if (rows[r] == null) {
                return found(1);
            }
            if (i < 0 || (long) i + s.things.size() > rows[r].length) {
                return found(2);
            }
            int bits = 0;
            for (int w = 0; w < 7; w++) {
                int[] looks = new int[s.things.size()];
                for (int t = 0; t < looks.length; t++) {
                    looks[t] = s.look(t, State.gone(s.week[w]));
                }
                bits += Arrays.equals(looks, Arrays.copyOfRange(rows[r], i, i + looks.length)) ? 1 << w : 0;
            }
            return fine(bits);
        }

        int shelf(int d, int k) {
            if (s == null) {
                return STATE;
            }
            if (far(d) || k < -1 || k > 6) {
                return BAD;
            }
            int[] looks = new int[s.things.size()];
            for (int t = 0; t < looks.length; t++) {
                looks[t] = s.look(t, s.goneIn(d));
            }
            List<List<Integer>> orders = new ArrayList<>();
            permute(new ArrayList<>(), looks, orders);
            if (k == -1) {
                return orders.size();
            }
            return orders.isEmpty() || k >= looks.length ? NONE : orders.get(0).get(k);
        }

        static void permute(List<Integer> order, int[] looks, List<List<Integer>> orders) {
            if (order.size() == looks.length) {
                for (int i = 1; i < looks.length; i++) {
                    if (looks[order.get(i)] == looks[order.get(i - 1)]) {
                        return;
                    }
                }
                orders.add(new ArrayList<>(order));
                return;
            }
            for (int i = 0; i < looks.length; i++) {
                if (!order.contains(i)) {
                    order.add(i);
                    permute(order, looks, orders);
                    order.remove(order.size() - 1);
                }
            }
        }

        int parted(int d, int e, int what) {
            if (s == null) {
                return STATE;
            }
            if (far(d) || far(e) || what != 0 && what != 1) {
                return BAD;
            }
            List<Integer> found = new ArrayList<>();
            for (int key = 0; key < 49; key++) {
                int a = key / 7;
                int b = key % 7;
                if (a < b && b < s.things.size() && same(a, b, d) && !same(a, b, e)) {
                    found.add(key);
                }
            }
            return what == 0 ? found.size() : found.isEmpty() ? NONE : found.get(0);
        }

        int merged(int a, int b) {
            if (no(a) || no(b) || a == b) {
                return BAD;
            }
            for (int size = 0; size <= 5; size++) {
                for (int set = 0; set < 32; set++) {
                    Set<Integer> gone = colours(set);
                    if (gone.size() == size && s.look(a, gone) == s.look(b, gone)) {
                        return set;
                    }
                }
            }
            return NONE;
        }

        int tests(int d, int looks, int shapes, int what) {
            if (s == null) {
                return STATE;
            }
            if (far(d) || looks < 0 || looks > 20 || shapes < 0 || shapes > 20 || what != 0 && what != 1) {
                return BAD;
            }
            int[][] ways = {{told(d, 0, 0), 0}, {told(d, 1, 0), looks}, {told(d, 0, 1), shapes},
                {told(d, 1, 1), looks + shapes}};
            Arrays.sort(ways, (p, q) -> p[0] != q[0] ? q[0] - p[0] : p[1] - q[1]);
            return ways[0][what];
        }

        int told(int d, int byLooks, int byShapes) {
            List<String> tells = new ArrayList<>();
            for (int i = 0; i < s.things.size(); i++) {
                tells.add(byLooks * (1 + s.look(i, s.goneIn(d))) + " " + byShapes * (1 + s.things.get(i)[1]));
            }
            int alone = 0;
            for (String tell : tells) {
                alone += tells.indexOf(tell) == tells.lastIndexOf(tell) ? 1 : 0;
            }
            return alone;
        }

        static long bet(int n, int k, int what) {
            if (n < 0 || n > 12 || k < 0 || k > n || what != 0 && what != 1) {
                return BAD;
            }
            // Weights of 0, 1 .. n misses, a DAY at a time.
            BigInteger[] weights = new BigInteger[14];
            Arrays.fill(weights, BigInteger.ZERO);
            weights[0] = BigInteger.ONE;
            for (int day = 0; day < n; day++) {
                for (int i = 13; i >= 0; i--) {
                    BigInteger missed = i == 0 ? BigInteger.ZERO : weights[i - 1];
                    weights[i] = weights[i].multiply(BigInteger.valueOf(4)).add(missed);
                }
            }
            BigInteger above = BigInteger.ZERO;
            for (int i = k; i <= n; i++) {
                above = above.add(weights[i]);
            }
            BigInteger below = BigInteger.valueOf(5).pow(n);
            return (what == 0 ? above : below).divide(above.gcd(below)).longValueExact();
        }

        int year(int n, int seed, int what) {
            if (s == null) {
                return STATE;
            }
            if (n < 0 || n > 200 || seed < 1 || seed > 999999 || what != 0 && what != 1) {
                return BAD;
            }
            BigInteger x = BigInteger.valueOf(seed);
            int[] sums = {0, 0};
            for (int i = 0; i < n; i++) {
                x = x.multiply(BigInteger.valueOf(16807)).mod(BigInteger.valueOf(2147483647));
                int harm = s.harm(State.gone(x.mod(BigInteger.valueOf(6)).intValue()));
                sums[0] += harm;
                sums[1] += harm == 0 ? 1 : 0;
            }
            return sums[what];
        }

        int image(int k) {
            if (k != 0 && k != 1) {
                return BAD;
            }
            if (s == null) {
                return STATE;
            }
            images[k] = s.copy();
            return 1;
        }

        int restore(int k) {
            if (k != 0 && k != 1) {
                return BAD;
            }
            if (images[k] == null) {
                return STATE;
            }
            s = images[k].copy();
            before.clear();
            return 1;
        }

        int kind(int one) {
            return no(one) ? BAD : 1 + "dwsif".indexOf(s.sorts.charAt(one));
        }

        int as(int one, int kind) {
            if (no(one) || kind < 0 || kind > 5) {
                return BAD;
            }
            String isOf = new String[] {"01", "012", "013", "04", "045"}[kind(one) - 1];
            return isOf.indexOf('0' + kind) >= 0 ? fine(one) : found(3);
        }

        int ask(int one, int what) {
            if (no(one) || what != 0 && what != 1) {
                return BAD;
            }
            trace = new ArrayList<>();
            return what == 0 ? size(one) : mark(one);
        }

        int size(int one) {
            return body(new int[] {0, 11, 12, 11, 13, 14}[kind(one)], one);
        }

        int mark(int one) {
            return body(new int[] {0, 21, 24, 22, 23, 23}[kind(one)], one);
        }

        int body(int number, int one) {
            trace.add(number);
            switch (number) {
                case 10: return s.things.get(one)[0];
                case 11: return body(10, one) + mark(one);
                case 12: return 0 - body(11, one);
                case 13: return body(10, one) - 100;
                case 14: return body(13, one) * 2;
                case 20: return one;
                case 21: return body(20, one) + s.look(one, s.goneIn(0));
                case 22: return body(21, one) - 1000;
                case 23: return body(20, one) - size(one);
                default: return body(21, one) * 2;
            }
        }

        int trace(int i) {
            return i < 0 || i >= Math.min(16, trace.size()) ? NONE : trace.get(i);
        }

        int count(int what) {
            int there = 0;
            for (int[] row : rows) {
                there += row == null ? 0 : 1;
            }
            boolean no = s == null;
            int[] counts = {there, no ? 0 : s.things.size(), no ? 0 : s.pairs.size(), no ? 0 : s.day,
                no ? 0 : s.harm(s.goneIn(0)), before.size(), tape.length()};
            return what < 0 || what > 6 ? BAD : counts[what];
        }
    }

    private final Random random;
    private GreyDays x = new GreyDays();
    private Model m = new Model();
    private final List<String> calls = new ArrayList<>();
    private int wrong = 0;

    private ModelTest(long seed) {
        random = new Random(seed);
    }

    private void due(String call, long got, long want) {
        calls.add(call);
        if (got != want) {
            wrong++;
            System.out.println(call + " answered " + got + ", due is " + want + ", behind " + calls);
        }
    }

    /** Mostly from least to most, at times beyond. */
    private int near(int least, int most) {
        int draw = random.nextInt(40);
        if (draw == 0) {
            return least - 1;
        }
        if (draw == 1) {
            return most + 1;
        }
        if (draw == 2 && random.nextInt(3) == 0) {
            return random.nextBoolean() ? Integer.MIN_VALUE : Integer.MAX_VALUE;
        }
        return least + random.nextInt(most - least + 1);
    }

    private int aThing() {
        int most = m.s == null ? 1 : Math.max(0, m.s.things.size() - 1);
        return near(0, most);
    }

    private String text() {
        StringBuilder b = new StringBuilder("c");
        boolean few = random.nextBoolean();
        for (int i = 0; i < 7; i++) {
            b.append(random.nextInt(6)).append(i < 6 ? ',' : ';');
        }
        int things = random.nextInt(8);
        for (int i = 0; i < things; i++) {
            b.append("dddwwsif".charAt(random.nextInt(8))).append(random.nextInt(few ? 4 : 32)).append(',');
            b.append(random.nextInt(few ? 2 : 4)).append(';');
        }
        Set<Integer> told = new HashSet<>();
        int pairs = random.nextInt(9);
        for (int i = 0; i < pairs && things > 1; i++) {
            int a = random.nextInt(things);
            int c = random.nextInt(things);
            if (a != c && told.add(Math.min(a, c) * 7 + Math.max(a, c))) {
                b.append('m').append(a).append(',').append(c).append(',').append(1 + random.nextInt(20)).append(';');
            }
        }
        if (random.nextInt(3) == 0) {
            spoil(b);
        }
        return b.length() > 120 ? b.substring(0, 120) : b.toString();
    }

    private void spoil(StringBuilder b) {
        int at = random.nextInt(b.length());
        String letters = "cdwsifmx0123456789,; A";
        char letter = letters.charAt(random.nextInt(letters.length()));
        switch (random.nextInt(5)) {
            case 0: b.setCharAt(at, letter); break;
            case 1: b.insert(at, letter); break;
            case 2: b.deleteCharAt(at); break;
            case 3: b.setLength(at); break;
            default: b.append("d1,0;d2,0;d3,0;m0,1,1;m0,2,1;m1,2,1;".substring(random.nextInt(20)));
        }
    }

    private void tell() {
        String text = text();
        for (int i = 0; i < text.length(); i++) {
            int letter = text.charAt(i);
            due("feed(" + letter + ")", x.feed(letter), m.feed(letter));
        }
        due("town()", x.town(), m.town());
        due("fault()", x.fault(), m.fault);
    }

    private void rowCalls() {
        int r = near(0, 7);
        int i = near(0, 8);
        int v = random.nextInt(3) == 0 ? random.nextInt() : random.nextInt(40);
        int lane = near(0, 2);
        int n = random.nextBoolean() ? near(0, 40) : near(0, 8);
        switch (random.nextInt(6)) {
            case 0: due("row(" + r + ", " + lane + ", " + n + ")", x.row(r, lane, n), m.row(r, lane, n)); break;
            case 1:
            case 2: due("set(" + r + ", " + i + ", " + v + ")", x.set(r, i, v), m.set(r, i, v)); break;
            case 3:
                int b = near(0, 7);
                int j = near(0, 8);
                copyBoth(r, i, b, j, n);
                break;
            case 4: due("seen(" + r + ", " + i + ")", x.seen(r, i), m.seen(r, i)); break;
            default:
                if (random.nextInt(4) == 0) {
                    due("drop(" + r + ")", x.drop(r), m.drop(r));
                } else {
                    writeLooks(random.nextInt(8), random.nextInt(3));
                }
        }
        due("status()", x.status(), m.status);
    }

    private void copyBoth(int a, int i, int b, int j, int n) {
        String call = "copy(" + a + ", " + i + ", " + b + ", " + j + ", " + n + ")";
        due(call, x.copy(a, i, b, j, n), m.copy(a, i, b, j, n));
    }

    /** LOOKS of one WEEKDAY are written, so that seen() often has something to see. */
    private void writeLooks(int r, int i) {
        due("row(" + r + ", 2, 10)", x.row(r, 2, 10), m.row(r, 2, 10));
        int weekday = random.nextInt(7);
        for (int t = 0; m.s != null && t < m.s.things.size(); t++) {
            int look = m.s.look(t, State.gone(m.s.week[weekday]));
            due("set(" + r + ", " + (i + t) + ", " + look + ")", x.set(r, i + t, look), m.set(r, i + t, look));
        }
        int to = random.nextInt(3);
        int n = random.nextInt(9);
        due("seen(" + r + ", " + i + ")", x.seen(r, i), m.seen(r, i));
        copyBoth(r, i, r, to, n);
        due("seen(" + r + ", " + to + ")", x.seen(r, to), m.seen(r, to));
    }

    private void deeds() {
        int n = random.nextBoolean() ? near(1, 24) : 24;
        int t = aThing();
        int mix = near(0, 31);
        int w = near(0, 6);
        int c = near(0, 5);
        int k = near(0, 1);
        switch (random.nextInt(8)) {
            case 0: due("days(" + n + ")", x.days(n), m.days(n)); break;
            case 1:
            case 2: due("paint(" + t + ", " + mix + ")", x.paint(t, mix), m.paint(t, mix)); break;
            case 3: due("miss(" + w + ", " + c + ")", x.miss(w, c), m.miss(w, c)); break;
            case 4:
            case 5: due("undo()", x.undo(), m.undo()); break;
            case 6: due("image(" + k + ")", x.image(k), m.image(k)); break;
            default: due("restore(" + k + ")", x.restore(k), m.restore(k));
        }
        int what = near(0, 6);
        due("count(" + what + ")", x.count(what), m.count(what));
    }

    private void plainQuestions() {
        int a = aThing();
        int b = aThing();
        int d = near(0, 100);
        int what = near(0, 3);
        int set = near(0, 31);
        int w = near(0, 6);
        switch (random.nextInt(9)) {
            case 0: due("thing(" + a + ", " + what + ")", x.thing(a, what), m.thing(a, what)); break;
            case 1: due("missing(" + w + ")", x.missing(w), m.missing(w)); break;
            case 2: due("pair(" + a + ", " + b + ")", x.pair(a, b), m.pair(a, b)); break;
            case 3: due("look(" + a + ", " + set + ")", x.look(a, set), m.look(a, set)); break;
            case 4: due("alike(" + a + ", " + b + ", " + d + ")", x.alike(a, b, d), m.alike(a, b, d)); break;
            case 5: due("like(" + a + ", " + d + ")", x.like(a, d), m.like(a, d)); break;
            case 6: due("looks(" + d + ")", x.looks(d), m.looks(d)); break;
            case 7: due("harm(" + d + ")", x.harm(d), m.harm(d)); break;
            default: int n = near(1, 100); due("harms(" + n + ")", x.harms(n), m.harms(n));
        }
    }

    private void foretold() {
        int a = aThing();
        int b = aThing();
        int d = near(0, 100);
        int e = near(0, 100);
        int what = near(0, 1);
        int k = near(-1, 6);
        int n = near(1, 6);
        switch (random.nextInt(10)) {
            case 0: due("week(" + what + ")", x.week(what), m.week(what)); break;
            case 1: due("bestPaint(" + what + ")", x.bestPaint(what), m.bestPaint(what)); break;
            case 2: due("dyes(" + n + ", " + k + ")", x.dyes(n, k), m.dyes(n, k)); break;
            case 3: due("thief(" + what + ")", x.thief(what), m.thief(what)); break;
            case 4: due("shelf(" + d + ", " + k + ")", x.shelf(d, k), m.shelf(d, k)); break;
            case 5:
                String parted = "parted(" + d + ", " + e + ", " + what + ")";
                due(parted, x.parted(d, e, what), m.parted(d, e, what));
                break;
            case 6: due("merged(" + a + ", " + b + ")", x.merged(a, b), m.merged(a, b)); break;
            case 7:
                int l = near(0, 20);
                int s = near(0, 20);
                String tests = "tests(" + d + ", " + l + ", " + s + ", " + what + ")";
                due(tests, x.tests(d, l, s, what), m.tests(d, l, s, what));
                break;
            case 8:
                int y = near(0, 12);
                int t = near(0, Math.max(0, Math.min(y, 13)));
                due("bet(" + y + ", " + t + ", " + what + ")", x.bet(y, t, what), Model.bet(y, t, what));
                break;
            default:
                int days = near(0, 200);
                int seed = near(1, 999999);
                String year = "year(" + days + ", " + seed + ", " + what + ")";
                due(year, x.year(days, seed, what), m.year(days, seed, what));
        }
    }

    private void asked() {
        int a = aThing();
        int what = near(0, 1);
        int kind = near(0, 5);
        switch (random.nextInt(3)) {
            case 0: due("kind(" + a + ")", x.kind(a), m.kind(a)); break;
            case 1:
                due("as(" + a + ", " + kind + ")", x.as(a, kind), m.as(a, kind));
                due("status()", x.status(), m.status);
                break;
            default:
                due("ask(" + a + ", " + what + ")", x.ask(a, what), m.ask(a, what));
                for (int i = -1; i < 8; i++) {
                    due("trace(" + i + ")", x.trace(i), m.trace(i));
                }
        }
    }

    private void run() {
        x = new GreyDays();
        m = new Model();
        calls.clear();
        if (random.nextInt(4) > 0) {
            tell();
        }
        while (calls.size() < CALLS - 130 && wrong == 0) {
            int draw = random.nextInt(100);
            if (draw < 1) {
                tell();
            } else if (draw < 20) {
                rowCalls();
            } else if (draw < 40) {
                deeds();
            } else if (draw < 60) {
                plainQuestions();
            } else if (draw < 85) {
                foretold();
            } else {
                asked();
            }
        }
    }

    public static void main(String[] args) {
        ModelTest test = new ModelTest(20261118);
        int runs = 0;
        while (runs < RUNS && test.wrong == 0) {
            test.run();
            runs++;
        }
        System.out.println("ModelTest: " + runs + " runs, " + test.wrong + " wrong");
        if (test.wrong != 0) {
            System.exit(1);
        }
    }
}
