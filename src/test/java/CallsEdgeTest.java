/** Each sentence of the promises 1 to 40 that names a boundary case, with a test of its own; worked out by hand. */
public final class CallsEdgeTest {
    private static final int NONE = -1000000, BAD = -1000001, STATE = -1000002, FULL = -1000003;
    private static final int NULL = -1000011, PLACE = -1000012, KIND = -1000013, SIZE = -1000014, STORE = -1000015;
    private static final int LEAST = Integer.MIN_VALUE, MOST = Integer.MAX_VALUE;
    private static final String PLAIN = "c0,1,2,3,4,5,0;", BRIGHT = "c5,5,5,5,5,5,5;";
    private static final String SEVEN = PLAIN + "d7,0;d6,1;w7,2;s7,1;i7,0;f9,3;d19,0;m0,1,5;m0,2,3;m3,4,7;m5,6,2;";

    private static final int[] NO_THING = {LEAST, -1, 7, MOST};
    private static final int[] FAR = {LEAST, -1, 0, 100, 101, MOST};
    private static final int[] WHATS = {LEAST, -1, 0, 1, 2, MOST};

    /** A call with one of its arguments open. */
    private interface Call {
        long with(int v);
    }

    private static String said = "";
    private static int wrong = 0;
    private static int asked = 0;
    private static int askedOfSentence = 0;
    private static int sentences = 0;

    private static void sentence(String words) {
        endSentence();
        said = words;
        sentences++;
        askedOfSentence = 0;
    }

    private static void endSentence() {
        if (sentences > 0 && askedOfSentence == 0) {
            wrong++;
            System.out.println("'" + said + "' has no test");
        }
    }

    private static void due(String call, long got, long want) {
        asked++;
        askedOfSentence++;
        if (got != want) {
            wrong++;
            System.out.println("'" + said + "': " + call + " answered " + got + ", due is " + want);
        }
    }

    private static boolean isRefused(long answer) {
        return answer <= BAD && answer >= STORE;
    }

    /** The ends of a range are taken; what is next to them, and the ends of all ints, is BAD. */
    private static void range(String call, int least, int most, Call c) {
        taken(call, new int[] {least, most}, c);
        all(call, BAD, new int[] {LEAST, least - 1, most + 1, MOST}, c);
    }

    private static void taken(String call, int[] values, Call c) {
        for (int v : values) {
            long answer = c.with(v);
            due(call + " with " + v + " is taken", isRefused(answer) ? answer : 0, 0);
        }
    }

    private static void all(String call, long want, int[] values, Call c) {
        for (int v : values) {
            due(call + " with " + v, c.with(v), want);
        }
    }

    private static int tell(GreyDays x, String text) {
        for (int i = 0; i < text.length(); i++) {
            x.feed(text.charAt(i));
        }
        return x.town();
    }

    private static GreyDays townOf(String text) {
        GreyDays x = new GreyDays();
        int answer = tell(x, text);
        if (answer < 0) {
            wrong++;
            System.out.println("not a town: " + text + " answered " + answer);
        }
        return x;
    }

    /** Whether ITEM i of a ROW is that (0 to 31): one THING of ink looks so on all WEEKDAYS. */
    private static void item(GreyDays x, int row, int i, int want) {
        tell(x, BRIGHT + "i" + want + ",0;");
        due("ITEM " + i + " of " + row + " is " + want, x.seen(row, i), 127);
    }

    private static void items(GreyDays x, int row, int... want) {
        StringBuilder text = new StringBuilder(BRIGHT);
        for (int one : want) {
            text.append('i').append(one).append(",0;");
        }
        tell(x, text.toString());
        due("ITEMS of " + row, x.seen(row, 0), 127);
    }

    private static void fill(GreyDays x, int row, int... items) {
        for (int i = 0; i < items.length; i++) {
            x.set(row, i, items[i]);
        }
    }

    public static void main(String[] args) {
        newObject();
        row();
        set();
        copy();
        copyPlaces();
        drop();
        feed();
        town();
        fault();
        undo();
        days();
        paint();
        miss();
        thing();
        missing();
        pair();
        look();
        alike();
        like();
        looks();
        harm();
        harms();
        week();
        bestPaint();
        dyes();
        thief();
        seen();
        shelf();
        parted();
        merged();
        tests();
        bet();
        year();
        image();
        restore();
        kind();
        as();
        ask();
        trace();
        count();
        status();
        noTown();
        noTownAheadOfBad();
        townWithoutThings();
        thingAlone();
        endSentence();
        System.out.println("CallsEdgeTest: " + sentences + " sentences, " + asked + " answers, " + wrong + " wrong");
        if (wrong != 0) {
            System.exit(1);
        }
    }

    // ---- rows

    private static void newObject() {
        sentence("`GreyDays()`: No TOWN");
        GreyDays x = new GreyDays();
        for (int what = 0; what <= 6; what++) {
            due("count " + what, x.count(what), 0);
        }
        due("missing", x.missing(0), STATE);
        due("kind", x.kind(0), BAD);
        due("no fault", x.fault(), 0);
        due("no finding", x.status(), 0);
        due("no trace", x.trace(0), NONE);
        due("no image", x.restore(0), STATE);
        due("no image", x.restore(1), STATE);
        due("no act", x.undo(), STATE);
        tell(x, SEVEN);
        due("apart from another object", new GreyDays().count(1), 0);
    }

    private static void row() {
        sentence("A ROW of a LANE with n ITEMS, in place of what is there: n");
        GreyDays x = new GreyDays();
        for (int n = 0; n <= 40; n++) {
            due("row of " + n, x.row(n % 8, n % 3, n), n);
            due("no place behind it", x.set(n % 8, n, 0), PLACE);
            due("its last place", x.set(n % 8, n - 1, 1), n == 0 ? PLACE : 1);
        }
        due("eight", x.count(0), 8);
        x = new GreyDays();
        x.row(0, 0, 3);
        fill(x, 0, 1, 2, 3);
        due("a lane more", x.row(0, 1, 3), 3);
        due("a short", x.set(0, 0, 300), 300);
        due("one row", x.count(0), 1);
        x.row(0, 1, 2);
        due("two now", x.set(0, 2, 0), PLACE);
        items(x, 0, 0, 0);
        sentence("BAD: ROW, LANE, n above 40; SIZE");
        x = new GreyDays();
        x.row(2, 2, 2);
        fill(x, 2, 5, 6);
        GreyDays y = x;
        range("row of", 0, 7, v -> new GreyDays().row(v, 0, 1));
        range("lane", 0, 2, v -> new GreyDays().row(0, v, 1));
        all("n", BAD, new int[] {41, 42, MOST}, v -> y.row(2, 0, v));
        all("n", SIZE, new int[] {-1, -2, LEAST}, v -> y.row(2, 0, v));
        all("BAD ahead of SIZE by row", BAD, new int[] {-1, 8}, v -> y.row(v, 0, -1));
        all("BAD ahead of SIZE by lane", BAD, new int[] {-1, 3}, v -> y.row(2, v, -1));
        due("SIZE of a row that is missing", y.row(3, 0, -1), SIZE);
        due("it is still", y.drop(3), NULL);
        items(x, 2, 5, 6);
        due("the row is as it was", y.set(2, 0, MOST), MOST);
        due("the row is as it was", y.drop(2), 2);
    }

    private static void set() {
        sentence("ITEM i becomes v, its lowest bits, as many as the LANE has: what it is then");
        GreyDays x = new GreyDays();
        x.row(0, 0, 3);
        due("a byte", x.set(0, 0, 256 + 17), 17);
        due("a byte", x.set(0, 1, -256 + 18), 18);
        due("a byte", x.set(0, 2, 65536 + 19), 19);
        items(x, 0, 17, 18, 19);
        x.row(1, 1, 2);
        due("a short", x.set(1, 0, 65536 + 17), 17);
        due("a short", x.set(1, 1, -65536 + 18), 18);
        items(x, 1, 17, 18);
        x.row(2, 0, 1);
        x.set(2, 0, 159);
        tell(x, BRIGHT + "s31,3;");
        due("a byte 159 is -97, not 159", x.seen(2, 0), 0);
        x.row(2, 1, 1);
        x.set(2, 0, 159);
        due("a short 159 is 159", x.seen(2, 0), 127);
        due("another place", x.set(0, 1, 3), 3);
        items(x, 0, 17, 3, 19);
        sentence("what it is then. BAD: ROW; NULL; PLACE");
        GreyDays y = new GreyDays();
        y.row(0, 2, 40);
        y.row(1, 2, 1);
        y.row(2, 2, 0);
        all("row", BAD, new int[] {LEAST, -1, 8, MOST}, v -> y.set(v, 0, 0));
        all("BAD ahead of PLACE", BAD, new int[] {-1, 8}, v -> y.set(v, -1, 0));
        all("a missing row", NULL, new int[] {3, 4, 5, 6, 7}, v -> y.set(v, 0, 0));
        all("NULL ahead of PLACE", NULL, new int[] {LEAST, -1, 40, MOST}, v -> y.set(3, v, 0));
        all("place of 40", PLACE, new int[] {LEAST, -1, 40, MOST}, v -> y.set(0, v, 0));
        all("place of 1", PLACE, new int[] {LEAST, -1, 1, MOST}, v -> y.set(1, v, 0));
        all("place of 0", PLACE, new int[] {LEAST, -1, 0, MOST}, v -> y.set(2, v, 0));
        due("first", y.set(0, 0, 7), 7);
        due("last", y.set(0, 39, 7), 7);
        due("of one", y.set(1, 0, 7), 7);
    }

    private static void copy() {
        sentence("n ITEMS of a from i on come to b from j on, as they were ahead: n");
        GreyDays x = new GreyDays();
        x.row(0, 0, 5);
        x.row(1, 0, 4);
        fill(x, 0, 1, 2, 3, 4, 5);
        fill(x, 1, 11, 12, 13, 14);
        due("two", x.copy(0, 3, 1, 1, 2), 2);
        items(x, 1, 11, 4, 5, 14);
        items(x, 0, 1, 2, 3, 4, 5);
        due("whole", x.copy(1, 0, 0, 0, 4), 4);
        items(x, 0, 11, 4, 5, 14, 5);
        due("none", x.copy(1, 0, 0, 0, 0), 0);
        items(x, 0, 11, 4, 5, 14, 5);
        fill(x, 0, 1, 2, 3, 4, 5);
        due("upwards by one", x.copy(0, 0, 0, 1, 4), 4);
        items(x, 0, 1, 1, 2, 3, 4);
        fill(x, 0, 1, 2, 3, 4, 5);
        due("downwards by two", x.copy(0, 2, 0, 0, 3), 3);
        items(x, 0, 3, 4, 5, 4, 5);
        due("in place", x.copy(0, 0, 0, 0, 5), 5);
        items(x, 0, 3, 4, 5, 4, 5);
        for (int lane = 0; lane <= 2; lane++) {
            x = new GreyDays();
            x.row(6, lane, 40);
            x.row(7, lane, 40);
            for (int i = 0; i < 40; i++) {
                x.set(6, i, i % 32);
            }
            due("all 40", x.copy(6, 0, 7, 0, 40), 40);
            item(x, 7, 0, 0);
            item(x, 7, 31, 31);
            item(x, 7, 32, 0);
            item(x, 7, 39, 7);
            due("up by 39", x.copy(7, 0, 7, 39, 1), 1);
            item(x, 7, 39, 0);
        }
        sentence("BAD: ROWS; NULL; STORE;");
        GreyDays y = new GreyDays();
        y.row(0, 0, 2);
        y.row(1, 1, 2);
        y.row(2, 2, 2);
        all("a", BAD, new int[] {LEAST, -1, 8, MOST}, v -> y.copy(v, 0, 0, 0, 0));
        all("b", BAD, new int[] {LEAST, -1, 8, MOST}, v -> y.copy(0, 0, v, 0, 0));
        all("BAD b ahead of NULL a", BAD, new int[] {-1, 8}, v -> y.copy(7, 0, v, 0, 0));
        all("BAD a ahead of NULL b", BAD, new int[] {-1, 8}, v -> y.copy(v, 0, 7, 0, 0));
        due("NULL a", y.copy(7, 0, 0, 0, 1), NULL);
        due("NULL b", y.copy(0, 0, 7, 0, 1), NULL);
        due("NULL both", y.copy(6, 0, 7, 0, 1), NULL);
        due("NULL, one row", y.copy(6, 0, 6, 0, 0), NULL);
        for (int a = 0; a <= 2; a++) {
            for (int b = 0; b <= 2; b++) {
                due("copy " + a + " to " + b, y.copy(a, 0, b, 0, 2), a == b ? 2 : STORE);
                due("none of " + a + " to " + b, y.copy(a, 0, b, 0, 0), a == b ? 0 : STORE);
                due("STORE ahead of PLACE", y.copy(a, -1, b, 0, 0), a == b ? PLACE : STORE);
                due("STORE ahead of PLACE", y.copy(a, 0, b, 0, 3), a == b ? PLACE : STORE);
            }
        }
    }

    private static void copyPlaces() {
        sentence("PLACE (i, j, n below 0, or beyond an end)");
        GreyDays x = new GreyDays();
        x.row(0, 0, 5);
        x.row(1, 0, 3);
        x.row(2, 0, 0);
        fill(x, 0, 1, 2, 3, 4, 5);
        fill(x, 1, 11, 12, 13);
        all("i", PLACE, new int[] {LEAST, -1, 5, 6, MOST}, v -> x.copy(0, v, 1, 0, 1));
        all("j", PLACE, new int[] {LEAST, -1, 3, 4, MOST}, v -> x.copy(0, 0, 1, v, 1));
        all("n", PLACE, new int[] {LEAST, -1, 4, 5, MOST}, v -> x.copy(0, 0, 1, 0, v));
        all("n from the other", PLACE, new int[] {LEAST, -1, 4, 5, MOST}, v -> x.copy(1, 0, 0, 0, v));
        all("none from i", PLACE, new int[] {LEAST, -1, 6, MOST}, v -> x.copy(0, v, 1, 0, 0));
        all("none to j", PLACE, new int[] {LEAST, -1, 4, MOST}, v -> x.copy(0, 0, 1, v, 0));
        due("i and n wrap round", x.copy(0, MOST, 1, 0, MOST), PLACE);
        due("i and n wrap round", x.copy(0, 1, 1, 0, MOST), PLACE);
        due("j and n wrap round", x.copy(0, 0, 1, 1, MOST), PLACE);
        due("j and n wrap round", x.copy(0, 0, 1, MOST, 1), PLACE);
        due("least less least", x.copy(0, LEAST, 1, LEAST, LEAST), PLACE);
        due("i below, n below", x.copy(0, -1, 1, 0, -1), PLACE);
        due("one beyond a", x.copy(0, 4, 1, 0, 2), PLACE);
        due("one beyond b", x.copy(0, 0, 1, 2, 2), PLACE);
        due("of a row of none", x.copy(2, 0, 0, 0, 1), PLACE);
        due("to a row of none", x.copy(0, 0, 2, 0, 1), PLACE);
        items(x, 0, 1, 2, 3, 4, 5);
        items(x, 1, 11, 12, 13);
        due("none at both ends", x.copy(0, 5, 1, 3, 0), 0);
        due("none of a row of none", x.copy(2, 0, 2, 0, 0), 0);
        due("the last of a", x.copy(0, 4, 1, 0, 1), 1);
        due("the last of b", x.copy(0, 0, 1, 2, 1), 1);
        items(x, 1, 5, 12, 1);
        due("to both ends", x.copy(0, 2, 1, 0, 3), 3);
        items(x, 1, 3, 4, 5);
    }

    private static void drop() {
        sentence("A ROW is missing from now on: how many ITEMS it had. BAD; NULL");
        GreyDays x = new GreyDays();
        for (int row = 0; row <= 7; row++) {
            x.row(row, row % 3, row == 7 ? 40 : row);
        }
        for (int row = 7; row >= 0; row--) {
            due("items of " + row, x.drop(row), row == 7 ? 40 : row);
            due("missing " + row, x.drop(row), NULL);
            due("missing " + row, x.set(row, 0, 0), NULL);
            due("rows left", x.count(0), row);
        }
        all("row", BAD, new int[] {LEAST, -1, 8, MOST}, x::drop);
        x.row(7, 0, 1);
        due("there again", x.drop(7), 1);
    }

    // ---- what is told

    private static void feed() {
        sentence("A byte (0 to 255) comes behind the tape: how many it has. BAD; FULL");
        range("feed", 0, 255, v -> new GreyDays().feed(v));
        GreyDays x = new GreyDays();
        for (int n = 1; n <= 119; n++) {
            due("byte " + n, x.feed(n * 2), n);
        }
        all("BAD at 119", BAD, new int[] {-1, 256}, x::feed);
        due("the last", x.feed(255), 120);
        all("FULL", FULL, new int[] {0, 255}, x::feed);
        all("BAD ahead of FULL", BAD, new int[] {LEAST, -1, 256, MOST}, x::feed);
        due("120", x.count(6), 120);
        x.town();
        due("room again", x.feed(0), 1);
        x = townOf(BRIGHT);
        due("it comes behind", x.feed('c'), 1);
        due("it comes behind", x.feed('x'), 2);
        due("c is taken, x is not", x.town(), -1000101);
    }

    private static void town() {
        sentence("The tape, empty then, is read: how many THINGS there are");
        GreyDays x = new GreyDays();
        String text = PLAIN;
        for (int n = 0; n <= 7; n++) {
            due("things", tell(x, text), n);
            due("empty then", x.count(6), 0);
            due("things", x.count(1), n);
            text += "i1,0;";
        }
        due("an empty tape is no TOWN", x.town(), -1000100);
        sentence("-1000100 less the place of a FAULT: all stays");
        x = townOf(SEVEN);
        x.row(0, 0, 4);
        x.days(2);
        x.paint(0, 9);
        x.image(0);
        x.ask(2, 0);
        due("at once", tell(x, "x"), -1000100);
        due("empty then", x.count(6), 0);
        due("far behind", tell(x, BRIGHT + "d1,0;d2,0;m0,1,21;"), -1000130);
        due("empty then", x.count(6), 0);
        int[] counts = {1, 7, 4, 2, 0, 3, 0};
        for (int what = 0; what <= 6; what++) {
            due("count " + what, x.count(what), counts[what]);
        }
        due("mix", x.thing(0, 0), 9);
        due("week", x.missing(0), 0);
        due("trace", x.trace(0), 12);
        due("acts", x.undo(), 2);
        due("mix", x.thing(0, 0), 7);
        due("image", x.restore(0), 1);
        due("mix", x.thing(0, 0), 9);
        due("the 119th byte", tell(new GreyDays(), "c00,01,02,03,04,05,00;d10,0;d10,0;d10,0;d10,0;d10,0;d10,0;d10,0;"
            + "m0,1,1;m0,2,1;m0,3,1;m0,4,1;m0,5,1;m0,6,1;m1,2,1;m1,3,1,"), -1000100 - 119);
        due("behind all pairs", tell(new GreyDays(), "c5,5,5,5,5,5,5;d31,0;d31,0;d31,0;d31,0;d31,0;d31,0;d31,0;"
            + "m0,1,10;m0,2,10;m0,3,10;m0,4,10;m0,5,10;m0,6,10;m1,2,1;x"), -1000100 - 112);
    }

    private static void fault() {
        sentence("The number of the latest FAULT; 0 before one");
        GreyDays x = new GreyDays();
        due("before one", x.fault(), 0);
        tell(x, BRIGHT);
        due("before one", x.fault(), 0);
        String seven = BRIGHT + "i1,0;i1,0;i1,0;i1,0;i1,0;i1,0;i1,0;";
        tell(x, seven + "i");
        due("3", x.fault(), 3);
        tell(x, BRIGHT);
        due("3 still", x.fault(), 3);
        tell(x, "c6");
        due("2", x.fault(), 2);
        x.town();
        due("1", x.fault(), 1);
        x.feed(256);
        x.days(0);
        due("a refusal is none", x.fault(), 1);
    }

    private static void undo() {
        sentence("The latest ACT is undone: how many can be undone yet. STATE: none");
        GreyDays x = new GreyDays();
        due("no town", x.undo(), STATE);
        tell(x, PLAIN + "d7,0;");
        due("no act", x.undo(), STATE);
        x.days(1);
        due("the one", x.undo(), 0);
        due("day 0", x.count(3), 0);
        due("no more", x.undo(), STATE);
        x.days(24);
        x.days(24);
        for (int left = 23; left >= 0; left--) {
            due("undo", x.undo(), left);
            due("day", x.count(3), 24 + left);
        }
        due("the first 24 are forgotten", x.undo(), STATE);
        due("day 24", x.count(3), 24);
        x.miss(3, 0);
        x.undo();
        due("what is undone is no act", x.count(5), 0);
        x.paint(0, 32);
        x.paint(1, 1);
        x.miss(7, 0);
        x.days(25);
        due("what is refused is no act", x.undo(), STATE);
        x.paint(0, 1);
        x.image(0);
        due("an image leaves it", x.count(5), 1);
        x.restore(0);
        due("restore does not", x.undo(), STATE);
        x.paint(0, 2);
        tell(x, BRIGHT);
        due("nor does a town", x.undo(), STATE);
    }

    // ---- what is done

    private static void days() {
        sentence("n DAYS go by (1 to 24), an ACT each: the DAY");
        range("days", 1, 24, v -> townOf(BRIGHT).days(v));
        all("days", BAD, new int[] {0, -1, 25}, v -> townOf(BRIGHT).days(v));
        for (int n = 1; n <= 24; n++) {
            GreyDays x = townOf(BRIGHT);
            due("the day", x.days(n), n);
            due("an act each", x.count(5), n);
            due("one back", x.undo(), n - 1);
            due("the day", x.count(3), n - 1);
        }
        GreyDays x = townOf(BRIGHT);
        x.days(20);
        due("44", x.days(24), 44);
        due("24 acts", x.count(5), 24);
        sentence("BAD; STATE: no TOWN (ahead of BAD); FULL: more than 999 would be gone");
        all("no town", STATE, new int[] {LEAST, -1, 0, 1, 24, 25, MOST}, v -> new GreyDays().days(v));
        for (int last = 1; last <= 24; last++) {
            x = townOf(BRIGHT);
            for (int i = 0; i < 40; i++) {
                x.days(24);
            }
            // 960 and 39 less the last ones.
            int first = 39 - last;
            x.days(Math.min(first, 24));
            if (first > 24) {
                x.days(first - 24);
            }
            due("999 less " + last, x.count(3), 999 - last);
            due("one more than there is room", x.days(last + 1), last == 24 ? BAD : FULL);
            due("24", last == 24 ? FULL : x.days(24), FULL);
            due("BAD ahead of FULL", x.days(25), BAD);
            due("BAD ahead of FULL", x.days(MOST), BAD);
            due("all stays", x.count(3), 999 - last);
            due("999", x.days(last), 999);
            due("1000", x.days(1), FULL);
            due("BAD ahead of FULL", x.days(0), BAD);
            due("999 still", x.count(3), 999);
            x.undo();
            due("998", x.count(3), 998);
            due("999 again", x.days(1), 999);
        }
    }

    private static void paint() {
        sentence("A THING is painted (MIX 0 to 31): what it was. BAD; STATE: it is of ink (a faded one is, too)");
        String five = PLAIN + "d7,0;w7,0;s7,0;i7,0;f7,0;";
        range("mix", 0, 31, v -> townOf(five).paint(0, v));
        taken("thing", new int[] {0, 1, 2}, v -> townOf(five).paint(v, 5));
        all("of ink", STATE, new int[] {3, 4}, v -> townOf(five).paint(v, 5));
        all("no such", BAD, new int[] {LEAST, -1, 5, 6, 7, MOST}, v -> townOf(five).paint(v, 5));
        all("ink with no mix", BAD, new int[] {LEAST, -1, 32, MOST}, v -> townOf(five).paint(3, v));
        all("faded with no mix", BAD, new int[] {LEAST, -1, 32, MOST}, v -> townOf(five).paint(4, v));
        all("ink with a mix", STATE, new int[] {0, 7, 31}, v -> townOf(five).paint(3, v));
        for (int one = 0; one <= 2; one++) {
            GreyDays x = townOf(five);
            due("it was 7", x.paint(one, 0), 7);
            due("it was 0", x.paint(one, 31), 0);
            due("it was 31", x.paint(one, 31), 31);
            due("31", x.thing(one, 0), 31);
            due("acts", x.count(5), 3);
            due("its kind stays", x.kind(one), one + 1);
        }
        due("no town", new GreyDays().paint(0, 0), BAD);
        due("no things", townOf(PLAIN).paint(0, 0), BAD);
    }

    private static void miss() {
        sentence("On a WEEKDAY a COLOUR (0 to 5) is missing: which one was. BAD; STATE: no TOWN (ahead of BAD)");
        range("weekday", 0, 6, v -> townOf(PLAIN).miss(v, 0));
        range("colour", 0, 5, v -> townOf(PLAIN).miss(0, v));
        int[] week = {0, 1, 2, 3, 4, 5, 0};
        for (int weekday = 0; weekday <= 6; weekday++) {
            GreyDays x = townOf(PLAIN + "d31,0;");
            for (int colour = 0; colour <= 5; colour++) {
                due("which one was", x.miss(weekday, colour), colour == 0 ? week[weekday] : colour - 1);
                due("it is", x.missing(weekday), colour);
            }
            due("to none", x.miss(weekday, 5), 5);
            due("another weekday", x.missing((weekday + 1) % 7), week[(weekday + 1) % 7]);
            due("seven acts", x.count(5), 7);
        }
        all("no town, weekday", STATE, new int[] {LEAST, -1, 0, 7, MOST}, v -> new GreyDays().miss(v, 0));
        all("no town, colour", STATE, new int[] {LEAST, -1, 5, 6, MOST}, v -> new GreyDays().miss(0, v));
        GreyDays x = townOf(PLAIN + "d31,0;");
        x.days(8);
        x.miss(1, 4);
        due("today is weekday 1", x.thing(0, 2), 15);
    }

    private static void thing() {
        sentence("Of a THING: 0 MIX, 1 SHAPE, 2 LOOK today, 3 HARM of all pairs that it is of. BAD");
        range("thing", 0, 6, v -> townOf(SEVEN).thing(v, 0));
        range("what", 0, 3, v -> townOf(SEVEN).thing(0, v));
        GreyDays x = townOf(PLAIN + "s31,3;f31,3;d0,0;m0,1,20;m2,0,20;");
        int[][] told = {{31, 3, 158, 40}, {31, 3, 0, 20}, {0, 0, 0, 20}};
        for (int one = 0; one < 3; one++) {
            for (int what = 0; what < 4; what++) {
                due("thing " + one + ", " + what, x.thing(one, what), told[one][what]);
            }
        }
        GreyDays y = townOf("c5,5,5,5,5,5,5;i1,0;i2,0;i3,0;i4,0;i5,0;i6,0;i7,0;"
            + "m0,1,20;m2,0,20;m0,3,20;m4,0,20;m0,5,20;m6,0,20;");
        due("six pairs", y.thing(0, 3), 120);
        due("one pair", y.thing(6, 3), 20);
        due("no pair", townOf(BRIGHT + "d1,0;").thing(0, 3), 0);
        all("no town", BAD, new int[] {-1, 0, 3, 4}, v -> new GreyDays().thing(0, v));
        all("no things", BAD, new int[] {-1, 0, 3, 4}, v -> townOf(PLAIN).thing(0, v));
    }

    private static void missing() {
        sentence("The COLOUR missing on a WEEKDAY. BAD; STATE: no TOWN (ahead of BAD)");
        range("weekday", 0, 6, v -> townOf(PLAIN).missing(v));
        all("no town", STATE, new int[] {LEAST, -1, 0, 6, 7, MOST}, v -> new GreyDays().missing(v));
        GreyDays x = townOf("c1,2,3,4,5,0,2;");
        int[] week = {1, 2, 3, 4, 5, 0, 2};
        for (int weekday = 0; weekday <= 6; weekday++) {
            due("weekday " + weekday, x.missing(weekday), week[weekday]);
            x.days(1);
        }
    }

    private static void pair() {
        sentence("HARM of a pair of two (0: they are none). BAD: alike, too");
        taken("a", new int[] {0, 5}, v -> townOf(SEVEN).pair(v, 6));
        taken("b", new int[] {1, 6}, v -> townOf(SEVEN).pair(0, v));
        all("a", BAD, NO_THING, v -> townOf(SEVEN).pair(v, 6));
        all("b", BAD, NO_THING, v -> townOf(SEVEN).pair(0, v));
        int[][] told = {{0, 1, 5}, {0, 2, 3}, {3, 4, 7}, {5, 6, 2}};
        GreyDays x = townOf(SEVEN);
        for (int a = 0; a <= 6; a++) {
            for (int b = 0; b <= 6; b++) {
                int harm = 0;
                for (int[] one : told) {
                    harm += one[0] == Math.min(a, b) && one[1] == Math.max(a, b) ? one[2] : 0;
                }
                due("pair " + a + ", " + b, x.pair(a, b), a == b ? BAD : harm);
            }
        }
        due("no town", new GreyDays().pair(0, 1), BAD);
        due("no town, alike", new GreyDays().pair(0, 0), BAD);
        due("harm 20", townOf(BRIGHT + "i1,0;i1,0;m0,1,20;").pair(1, 0), 20);
    }

    private static void look() {
        sentence("LOOK of a THING, a set of COLOURS (0 to 31) being missing. BAD");
        range("thing", 0, 6, v -> townOf(SEVEN).look(v, 0));
        range("set", 0, 31, v -> townOf(SEVEN).look(0, v));
        GreyDays x = townOf(PLAIN + "d31,0;");
        due("nothing missing, whatever the day", x.look(0, 0), 31);
        due("all missing", x.look(0, 31), 0);
        due("no town", new GreyDays().look(0, 0), BAD);
        due("no things", townOf(PLAIN).look(0, 0), BAD);
    }

    // ---- foretold

    private static void alike() {
        sentence("Whether two are ALIKE (1, 0). BAD: alike, too");
        range("d", 0, 100, v -> townOf(SEVEN).alike(0, 1, v));
        taken("a", new int[] {0, 5}, v -> townOf(SEVEN).alike(v, 6, 0));
        taken("b", new int[] {1, 6}, v -> townOf(SEVEN).alike(0, v, 0));
        all("a", BAD, NO_THING, v -> townOf(SEVEN).alike(v, 6, 0));
        all("b", BAD, NO_THING, v -> townOf(SEVEN).alike(0, v, 0));
        GreyDays x = townOf(SEVEN);
        for (int i = 0; i <= 6; i++) {
            due("one with itself", x.alike(i, i, 0), BAD);
        }
        // Alike with 0 missing: on WEEKDAYS 0 and 6.
        for (int d = 0; d <= 100; d++) {
            due("in " + d, x.alike(0, 1, d), d % 7 == 0 || d % 7 == 6 ? 1 : 0);
        }
        due("no town", new GreyDays().alike(0, 1, 0), BAD);
    }

    private static void like() {
        sentence("`int like(int thing, int d)`: LIKE. BAD");
        range("thing", 0, 6, v -> townOf(SEVEN).like(v, 0));
        range("d", 0, 100, v -> townOf(SEVEN).like(0, v));
        GreyDays x = townOf("c5,5,0,5,5,5,5;d3,0;d2,0;");
        for (int d = 0; d <= 100; d++) {
            due("in " + d, x.like(0, d), d % 7 == 2 ? 3 : 1);
        }
        due("no town", new GreyDays().like(0, 0), BAD);
        due("no things", townOf(PLAIN).like(0, 0), BAD);
    }

    private static void looks() {
        sentence("`int looks(int d)`: LOOKS. BAD; STATE: no TOWN (ahead of BAD)");
        range("d", 0, 100, v -> townOf(SEVEN).looks(v));
        all("no town", STATE, FAR, v -> new GreyDays().looks(v));
        GreyDays x = townOf("c5,5,0,5,5,5,5;d3,0;d2,0;");
        for (int d = 0; d <= 100; d++) {
            due("in " + d, x.looks(d), d % 7 == 2 ? 1 : 2);
        }
    }

    private static void harm() {
        sentence("HARM of a DAY. BAD; STATE: no TOWN (ahead of BAD)");
        range("d", 0, 100, v -> townOf(SEVEN).harm(v));
        all("no town", STATE, FAR, v -> new GreyDays().harm(v));
        GreyDays x = townOf("c5,5,0,5,5,5,5;d3,0;d2,0;m0,1,20;");
        for (int d = 0; d <= 100; d++) {
            due("in " + d, x.harm(d), d % 7 == 2 ? 20 : 0);
        }
    }

    private static void harms() {
        sentence("HARM of n DAYS. BAD; STATE: no TOWN (ahead of BAD)");
        range("n", 1, 100, v -> townOf(SEVEN).harms(v));
        all("no town", STATE, FAR, v -> new GreyDays().harms(v));
        GreyDays x = townOf("c5,5,0,5,5,5,5;d3,0;d2,0;m0,1,20;");
        int sum = 0;
        for (int n = 1; n <= 100; n++) {
            sum += (n - 1) % 7 == 2 ? 20 : 0;
            due("of " + n, x.harms(n), sum);
        }
    }

    private static void week() {
        sentence("CLEAR (what = 0), WORST (1). BAD; STATE: no TOWN (ahead of BAD)");
        range("what", 0, 1, v -> townOf(SEVEN).week(v));
        all("no town", STATE, WHATS, v -> new GreyDays().week(v));
        GreyDays x = townOf("c5,5,0,5,5,5,5;d3,0;d2,0;m0,1,20;");
        due("clear", x.week(0), 127 - 4);
        due("worst", x.week(1), 2);
    }

    private static void bestPaint() {
        sentence("PAINT: which (what = 0), HARM by it (1); NONE. BAD; STATE: no TOWN (ahead of BAD)");
        range("what", 0, 1, v -> townOf(SEVEN).bestPaint(v));
        all("no town", STATE, WHATS, v -> new GreyDays().bestPaint(v));
        all("nothing can be painted", NONE, new int[] {0, 1}, v -> townOf(BRIGHT + "i1,0;f1,0;").bestPaint(v));
        all("nothing to paint", NONE, new int[] {0, 1}, v -> townOf(BRIGHT).bestPaint(v));
        all("BAD though NONE", BAD, new int[] {-1, 2}, v -> townOf(BRIGHT).bestPaint(v));
        // The seventh of shape 0 shines as 32 and more: its LOOKS are never those of the others.
        GreyDays x = townOf(BRIGHT + "i1,0;i2,0;i3,0;i4,0;i5,0;i6,0;s1,0;m0,6,20;");
        due("the first mix of the last", x.bestPaint(0), 193);
        due("no harm", x.bestPaint(1), 0);
        due("nothing is painted", x.count(5), 0);
    }

    private static void dyes() {
        sentence("BAD: n, k not -1 to n less 1; STATE: no TOWN (ahead of BAD)");
        range("n", 1, 6, v -> townOf(PLAIN).dyes(v, 0));
        for (int n = 1; n <= 6; n++) {
            int m = n;
            range("k of " + n, -1, n - 1, v -> townOf(PLAIN).dyes(m, v));
        }
        all("n, k -1", BAD, new int[] {LEAST, -1, 0, 7, MOST}, v -> townOf(PLAIN).dyes(v, -1));
        all("no town, n", STATE, new int[] {LEAST, -1, 0, 1, 6, 7, MOST}, v -> new GreyDays().dyes(v, 0));
        all("no town, k", STATE, new int[] {LEAST, -2, -1, 0, 1, 6, MOST}, v -> new GreyDays().dyes(1, v));
    }

    private static void thief() {
        sentence("THIEF: which (what = 0), with how many (1); NONE: there are no THINGS. BAD; "
            + "STATE: no TOWN (ahead of BAD)");
        range("what", 0, 1, v -> townOf(SEVEN).thief(v));
        all("no town", STATE, WHATS, v -> new GreyDays().thief(v));
        all("no things", NONE, new int[] {0, 1}, v -> townOf(BRIGHT).thief(v));
        all("BAD though NONE", BAD, new int[] {-1, 2}, v -> townOf(BRIGHT).thief(v));
        GreyDays x = townOf("c5,5,0,5,5,5,5;i9,0;d3,0;d2,0;");
        due("which", x.thief(0), 15);
        due("with how many", x.thief(1), 1);
    }

    private static void seen() {
        sentence("BAD: ROW; STATE: no TOWN (ahead of BAD); NULL; PLACE");
        all("no town", STATE, new int[] {LEAST, -1, 0, 7, 8, MOST}, v -> new GreyDays().seen(v, 0));
        all("no town", STATE, new int[] {LEAST, -1, 0, 41, MOST}, v -> new GreyDays().seen(0, v));
        for (int things = 0; things <= 7; things++) {
            GreyDays x = townOf(BRIGHT + "f0,0;f0,0;f0,0;f0,0;f0,0;f0,0;f0,0;".substring(0, 5 * things));
            x.row(0, 0, 7);
            int last = 7 - things;
            all("row", BAD, new int[] {LEAST, -1, 8, MOST}, v -> x.seen(v, 0));
            all("BAD ahead of PLACE", BAD, new int[] {-1, 8}, v -> x.seen(v, -1));
            all("missing", NULL, new int[] {1, 2, 3, 4, 5, 6, 7}, v -> x.seen(v, 0));
            all("NULL ahead of PLACE", NULL, new int[] {LEAST, -1, 8, MOST}, v -> x.seen(1, v));
            all("place", PLACE, new int[] {LEAST, -1, last + 1, 8, MOST}, v -> x.seen(0, v));
            all("to the end", 127, new int[] {0, last}, v -> x.seen(0, v));
            x.row(0, 0, Math.max(0, things - 1));
            due("a row too short", x.seen(0, 0), things == 0 ? 127 : PLACE);
        }
    }

    private static void shelf() {
        sentence("SHELF: in how many (k = -1), the k-th (0 on); NONE: no such one. BAD: k not -1 to 6; "
            + "STATE: no TOWN (ahead of BAD)");
        range("d", 0, 100, v -> townOf(SEVEN).shelf(v, 0));
        range("d, k -1", 0, 100, v -> townOf(SEVEN).shelf(v, -1));
        for (int things = 0; things <= 7; things++) {
            String text = BRIGHT + "i1,0;i2,0;i3,0;i4,0;i5,0;i6,0;i7,0;".substring(0, 5 * things);
            range("k of " + things, -1, 6, v -> townOf(text).shelf(0, v));
            GreyDays x = townOf(text);
            for (int k = 0; k <= 6; k++) {
                due("k " + k + " of " + things, x.shelf(0, k), k < things ? k : NONE);
            }
            int[] orders = {1, 1, 2, 6, 24, 120, 720, 5040};
            due("orders of " + things, x.shelf(0, -1), orders[things]);
        }
        GreyDays x = townOf("c5,5,0,5,5,5,5;d3,0;d2,0;");
        for (int d = 0; d <= 100; d++) {
            due("orders in " + d, x.shelf(d, -1), d % 7 == 2 ? 0 : 2);
            due("the last in " + d, x.shelf(d, 1), d % 7 == 2 ? NONE : 1);
        }
        all("no town, d", STATE, FAR, v -> new GreyDays().shelf(v, 0));
        all("no town, k", STATE, new int[] {LEAST, -2, -1, 6, 7, MOST}, v -> new GreyDays().shelf(0, v));
    }

    private static void parted() {
        sentence("PARTED: how many (what = 0), the first (1; NONE). BAD; STATE: no TOWN (ahead of BAD)");
        range("d", 0, 100, v -> townOf(SEVEN).parted(v, 0, 0));
        range("e", 0, 100, v -> townOf(SEVEN).parted(0, v, 0));
        range("what", 0, 1, v -> townOf(SEVEN).parted(0, 1, v));
        GreyDays x = townOf("c5,5,0,5,5,5,5;d3,0;d2,0;");
        for (int e = 0; e <= 100; e++) {
            due("in 2, not in " + e, x.parted(2, e, 0), e % 7 == 2 ? 0 : 1);
            due("in 100, not in " + e, x.parted(100, e, 1), e % 7 == 2 ? NONE : 1);
            due("in " + e + ", not in 0", x.parted(e, 0, 1), e % 7 == 2 ? 1 : NONE);
        }
        all("no town, d", STATE, FAR, v -> new GreyDays().parted(v, 0, 0));
        all("no town, e", STATE, FAR, v -> new GreyDays().parted(0, v, 0));
        all("no town, what", STATE, WHATS, v -> new GreyDays().parted(0, 0, v));
    }

    private static void merged() {
        sentence("MERGED; NONE. BAD: alike, too");
        taken("a", new int[] {0, 5}, v -> townOf(SEVEN).merged(v, 6));
        taken("b", new int[] {1, 6}, v -> townOf(SEVEN).merged(0, v));
        all("a", BAD, NO_THING, v -> townOf(SEVEN).merged(v, 6));
        all("b", BAD, NO_THING, v -> townOf(SEVEN).merged(0, v));
        GreyDays x = townOf(SEVEN);
        for (int i = 0; i <= 6; i++) {
            due("one with itself", x.merged(i, i), BAD);
        }
        due("never", x.merged(3, 4), NONE);
        due("no finding", x.status(), 0);
        due("no town", new GreyDays().merged(0, 1), BAD);
        due("whatever the day", x.merged(0, 1), 1);
    }

    private static void tests() {
        sentence("TESTS: how many (what = 0), the cost (1). BAD; STATE: no TOWN (ahead of BAD)");
        range("d", 0, 100, v -> townOf(SEVEN).tests(v, 0, 0, 0));
        range("looks", 0, 20, v -> townOf(SEVEN).tests(0, v, 0, 0));
        range("shapes", 0, 20, v -> townOf(SEVEN).tests(0, 0, v, 0));
        range("what", 0, 1, v -> townOf(SEVEN).tests(0, 0, 0, v));
        all("no town, d", STATE, FAR, v -> new GreyDays().tests(v, 0, 0, 0));
        all("no town, looks", STATE, new int[] {LEAST, -1, 20, 21, MOST}, v -> new GreyDays().tests(0, v, 0, 0));
        all("no town, shapes", STATE, new int[] {LEAST, -1, 20, 21, MOST}, v -> new GreyDays().tests(0, 0, v, 0));
        all("no town, what", STATE, WHATS, v -> new GreyDays().tests(0, 0, 0, v));
        GreyDays x = townOf(BRIGHT + "i1,0;i2,1;");
        for (int looks = 0; looks <= 20; looks++) {
            due("looks for " + looks, x.tests(0, looks, 10, 1), Math.min(looks, 10));
            due("shapes for " + looks, x.tests(0, 10, looks, 1), Math.min(looks, 10));
            due("two", x.tests(0, looks, looks, 0), 2);
        }
    }

    private static void bet() {
        sentence("BET (k 0 to n): above (what = 0), below (1). BAD");
        GreyDays x = new GreyDays();
        range("n", 0, 12, v -> x.bet(v, 0, 0));
        range("what", 0, 1, v -> x.bet(3, 1, v));
        for (int n = 0; n <= 12; n++) {
            int m = n;
            range("k of " + n, 0, n, v -> new GreyDays().bet(m, v, 0));
            range("k of " + n + ", below", 0, n, v -> new GreyDays().bet(m, v, 1));
        }
        all("k of a bad n", BAD, new int[] {-1, 0, 1, 13, 14}, v -> new GreyDays().bet(13, v, 0));
        all("k of a bad n", BAD, new int[] {-2, -1, 0}, v -> new GreyDays().bet(-1, v, 0));
        due("with a town as without", townOf(SEVEN).bet(3, 1, 0), 61);
    }

    private static void year() {
        sentence("YEAR (SEED 1 to 999999): HARM (what = 0), DAYS without (1). BAD; STATE: no TOWN (ahead of BAD)");
        range("n", 0, 200, v -> townOf(SEVEN).year(v, 1, 0));
        range("seed", 1, 999999, v -> townOf(SEVEN).year(1, v, 0));
        range("seed of no days", 1, 999999, v -> townOf(SEVEN).year(0, v, 1));
        range("what", 0, 1, v -> townOf(SEVEN).year(1, 1, v));
        all("no town, n", STATE, new int[] {LEAST, -1, 0, 200, 201, MOST}, v -> new GreyDays().year(v, 1, 0));
        all("no town, seed", STATE, new int[] {LEAST, 0, 1, 999999, 1000000, MOST}, v -> new GreyDays().year(1, v, 0));
        all("no town, what", STATE, WHATS, v -> new GreyDays().year(1, 1, v));
        GreyDays x = townOf(BRIGHT + "f0,0;f0,0;m0,1,1;");
        for (int n = 0; n <= 200; n++) {
            due("harm of " + n, x.year(n, n + 1, 0), n);
        }
        due("the day stays", x.count(3), 0);
    }

    private static void image() {
        sentence("An IMAGE (0, 1) is kept of the TOWN: 1. BAD; STATE: no TOWN");
        range("image", 0, 1, v -> townOf(SEVEN).image(v));
        all("no town", STATE, new int[] {0, 1}, v -> new GreyDays().image(v));
        all("BAD ahead of STATE", BAD, new int[] {LEAST, -1, 2, MOST}, v -> new GreyDays().image(v));
        GreyDays x = townOf(PLAIN + "d7,0;");
        due("kept", x.image(0), 1);
        due("the other is not", x.restore(1), STATE);
        x.paint(0, 8);
        due("kept", x.image(1), 1);
        due("acts stay", x.count(5), 1);
        x.paint(0, 9);
        due("anew", x.image(0), 1);
        due("the other", x.restore(1), 1);
        due("8", x.thing(0, 0), 8);
        due("the first", x.restore(0), 1);
        due("9", x.thing(0, 0), 9);
        due("a town without things", tell(x, PLAIN), 0);
        due("is kept, too", x.image(0), 1);
        x.restore(1);
        due("one", x.count(1), 1);
        x.restore(0);
        due("none", x.count(1), 0);
    }

    private static void restore() {
        sentence("The TOWN is as an IMAGE kept it (no ACT can be undone then): 1. BAD; STATE: none was kept");
        GreyDays kept = townOf(SEVEN);
        kept.image(0);
        kept.image(1);
        range("restore", 0, 1, kept::restore);
        all("none was kept", STATE, new int[] {0, 1}, v -> townOf(SEVEN).restore(v));
        all("none was kept, no town", STATE, new int[] {0, 1}, v -> new GreyDays().restore(v));
        all("BAD ahead of STATE", BAD, new int[] {LEAST, -1, 2, MOST}, v -> new GreyDays().restore(v));
        GreyDays x = townOf(SEVEN);
        x.days(24);
        x.paint(0, 31);
        x.miss(6, 5);
        x.image(1);
        tell(x, BRIGHT);
        due("over another", x.restore(1), 1);
        int[] counts = {0, 7, 4, 24, 0, 0, 0};
        for (int what = 0; what <= 6; what++) {
            due("count " + what, x.count(what), counts[what]);
        }
        due("no act", x.undo(), STATE);
        due("mix", x.thing(0, 0), 31);
        due("week", x.missing(6), 5);
        due("shape", x.thing(5, 1), 3);
        due("kind", x.kind(5), 5);
        due("pair", x.pair(6, 5), 2);
        x.paint(0, 1);
        x.miss(6, 1);
        x.days(1);
        x.restore(1);
        due("the IMAGE is as it was: mix", x.thing(0, 0), 31);
        due("the IMAGE is as it was: week", x.missing(6), 5);
        due("the IMAGE is as it was: day", x.count(3), 24);
        x.paint(0, 2);
        x.undo();
        due("undone to what was restored", x.thing(0, 0), 31);
        due("none was kept of the other", x.restore(0), STATE);
        x = townOf("c1,2,3,4,5,3,2;d1,0;w2,1;s3,2;i4,3;f5,0;d6,1;d7,2;m0,1,1;m2,0,2;m0,3,3;m4,0,4;m0,5,5;m6,0,6;"
            + "m1,2,7;m6,5,8;");
        x.image(0);
        tell(x, PLAIN);
        x.restore(0);
        int[] week = {1, 2, 3, 4, 5, 3, 2};
        int[] kinds = {1, 2, 3, 4, 5, 1, 1};
        for (int i = 0; i < 7; i++) {
            due("week " + i, x.missing(i), week[i]);
            due("kind " + i, x.kind(i), kinds[i]);
            due("mix " + i, x.thing(i, 0), i + 1);
            due("shape " + i, x.thing(i, 1), i % 4);
            due("pair 0, " + i, x.pair(0, i), i == 0 ? BAD : i);
        }
        due("the seventh pair", x.pair(1, 2), 7);
        due("the eighth pair", x.pair(5, 6), 8);
        due("pairs", x.count(2), 8);
    }

    // ---- asked

    private static void kind() {
        sentence("The KIND of a THING, as told (1 to 5). BAD");
        range("kind", 0, 6, v -> townOf(SEVEN).kind(v));
        int[] kinds = {1, 1, 2, 3, 4, 5, 1};
        for (int i = 0; i <= 6; i++) {
            due("kind of " + i, townOf(SEVEN).kind(i), kinds[i]);
        }
        due("no town", new GreyDays().kind(0), BAD);
        due("no things", townOf(PLAIN).kind(0), BAD);
    }

    private static void as() {
        sentence("A THING is taken as one of a KIND (0 .. 5): its number. BAD; KIND: it is no such one");
        range("thing", 0, 6, v -> townOf(SEVEN).as(v, 0));
        all("kind", BAD, new int[] {LEAST, -1, 6, MOST}, v -> townOf(SEVEN).as(4, v));
        all("thing, no kind", BAD, new int[] {LEAST, -1, 7, MOST}, v -> townOf(SEVEN).as(v, 6));
        GreyDays x = townOf(PLAIN + "f1,0;i1,0;s1,0;w1,0;d1,0;");
        String[] isOf = {"045", "04", "013", "012", "01"};
        for (int one = 0; one < 5; one++) {
            for (int kind = 0; kind <= 5; kind++) {
                boolean is = isOf[one].indexOf('0' + kind) >= 0;
                due(one + " as " + kind, x.as(one, kind), is ? one : KIND);
                due("status", x.status(), is ? 0 : 3);
            }
        }
        due("no town", new GreyDays().as(0, 0), BAD);
    }

    private static void ask() {
        sentence("An ASK (0, 1) of a THING. BAD. THE TRACE is empty ahead of it");
        range("thing", 0, 6, v -> townOf(SEVEN).ask(v, 0));
        range("what", 0, 1, v -> townOf(SEVEN).ask(0, v));
        GreyDays x = townOf(SEVEN);
        x.ask(2, 0);
        due("six", x.trace(5), 20);
        x.ask(4, 0);
        due("13", x.trace(0), 13);
        due("10", x.trace(1), 10);
        due("two alone", x.trace(2), NONE);
        due("BAD", x.ask(4, 2), BAD);
        due("BAD", x.ask(7, 0), BAD);
        due("it stays", x.trace(0), 13);
        due("no town", new GreyDays().ask(0, 0), BAD);
    }

    private static void trace() {
        sentence("Number i of THE TRACE; NONE");
        GreyDays x = new GreyDays();
        int[] places = {LEAST, -1, 0, 1, 15, 16, MOST};
        all("none yet", NONE, places, x::trace);
        tell(x, SEVEN);
        all("none yet", NONE, places, x::trace);
        x.ask(0, 1);
        due("21", x.trace(0), 21);
        due("20", x.trace(1), 20);
        all("beyond", NONE, new int[] {LEAST, -1, 2, 3, 15, 16, MOST}, x::trace);
        due("no refusal", x.status(), 0);
    }

    private static void count() {
        sentence("How many: 0 ROWS, 1 THINGS, 2 pairs, 3 DAY, 4 HARM today, 5 ACTS that can be undone, "
            + "6 bytes on the tape. BAD");
        range("what", 0, 6, v -> townOf(SEVEN).count(v));
        range("what, no town", 0, 6, v -> new GreyDays().count(v));
        GreyDays x = townOf(SEVEN);
        for (int row = 0; row < 8; row++) {
            x.row(row, 0, 0);
        }
        x.days(7);
        x.paint(6, 1);
        x.paint(6, 0);
        for (int i = 0; i < 120; i++) {
            x.feed(0);
        }
        // 0 and 1 look 6, the last looks 0 as the faded one.
        int[] counts = {8, 7, 4, 7, 7, 9, 120};
        for (int what = 0; what <= 6; what++) {
            due("count " + what, x.count(what), counts[what]);
        }
    }

    private static void status() {
        sentence("Of the latest call with a ROW, or as(), that was not BAD, STATE, FULL: the number of its FINDING; "
            + "0: it had none, or there was none");
        GreyDays x = new GreyDays();
        due("there was none", x.status(), 0);
        x.seen(0, 0);
        due("STATE", x.status(), 0);
        for (int number = 1; number <= 5; number++) {
            // Each call that had none makes it 0; each that was refused, and each other call, leaves it.
            for (int call = 0; call < 6; call++) {
                GreyDays y = townOf(PLAIN + "i1,0;");
                y.row(0, 0, 1);
                y.row(1, 1, 1);
                find(y, number);
                due("finding", y.status(), number);
                refuse(y);
                due("refused", y.status(), number);
                others(y);
                due("others", y.status(), number);
                fine(y, call);
                due("none by " + call, y.status(), 0);
            }
        }
    }

    private static void find(GreyDays x, int number) {
        switch (number) {
            case 1: x.drop(7); break;
            case 2: x.set(0, 1, 0); break;
            case 3: x.as(0, 5); break;
            case 4: x.row(7, 0, -1); break;
            default: x.copy(0, 0, 1, 0, 0);
        }
    }

    private static void refuse(GreyDays x) {
        due("BAD", x.row(8, 0, 0), BAD);
        due("BAD", x.row(0, 0, 41), BAD);
        due("BAD", x.set(8, 0, 0), BAD);
        due("BAD", x.copy(0, 0, 8, 0, 0), BAD);
        due("BAD", x.drop(-1), BAD);
        due("BAD", x.seen(8, 0), BAD);
        due("BAD", x.as(1, 0), BAD);
        due("BAD", x.as(0, 6), BAD);
        due("STATE", x.paint(0, 0), STATE);
        due("NONE", x.bestPaint(0), NONE);
    }

    private static void others(GreyDays x) {
        x.days(1);
        x.undo();
        x.miss(0, 0);
        x.thing(0, 0);
        x.look(0, 0);
        x.harm(0);
        x.shelf(0, 0);
        x.image(0);
        x.restore(0);
        x.kind(0);
        x.ask(0, 0);
        x.trace(0);
        x.count(0);
        x.fault();
        x.feed('x');
        due("a fault is no finding", x.town(), -1000100);
    }

    private static void fine(GreyDays x, int call) {
        switch (call) {
            case 0: due("row", x.row(2, 0, 0), 0); break;
            case 1: due("set", x.set(0, 0, 5), 5); break;
            case 2: due("copy", x.copy(0, 0, 0, 0, 0), 0); break;
            case 3: due("drop", x.drop(1), 1); break;
            case 4: due("seen", x.seen(0, 0), 0); break;
            default: due("as", x.as(0, 4), 0);
        }
    }

    // ---- an object that has no TOWN, a TOWN without THINGS, a THING alone

    private static void noTown() {
        sentence("STATE (as told)");
        GreyDays x = new GreyDays();
        due("undo", x.undo(), STATE);
        due("days", x.days(1), STATE);
        due("paint", x.paint(0, 1), BAD);
        due("miss", x.miss(0, 0), STATE);
        due("thing", x.thing(0, 0), BAD);
        due("missing", x.missing(0), STATE);
        due("pair", x.pair(0, 1), BAD);
        due("look", x.look(0, 0), BAD);
        due("alike", x.alike(0, 1, 0), BAD);
        due("like", x.like(0, 0), BAD);
        due("looks", x.looks(0), STATE);
        due("harm", x.harm(0), STATE);
        due("harms", x.harms(1), STATE);
        due("week", x.week(0), STATE);
        due("bestPaint", x.bestPaint(0), STATE);
        due("dyes", x.dyes(1, 0), STATE);
        due("thief", x.thief(0), STATE);
        x.row(0, 0, 0);
        due("seen", x.seen(0, 0), STATE);
        due("shelf", x.shelf(0, -1), STATE);
        due("parted", x.parted(0, 0, 0), STATE);
        due("merged", x.merged(0, 1), BAD);
        due("tests", x.tests(0, 0, 0, 0), STATE);
        due("bet", x.bet(1, 1, 1), 5);
        due("year", x.year(0, 1, 0), STATE);
        due("image", x.image(0), STATE);
        due("restore", x.restore(0), STATE);
        due("kind", x.kind(0), BAD);
        due("as", x.as(0, 0), BAD);
        due("ask", x.ask(0, 0), BAD);
        due("trace", x.trace(0), NONE);
        int[] counts = {1, 0, 0, 0, 0, 0, 0};
        for (int what = 0; what <= 6; what++) {
            due("count " + what, x.count(what), counts[what]);
        }
        due("status", x.status(), 0);
        due("fault", x.fault(), 0);
    }

    private static void noTownAheadOfBad() {
        sentence("STATE: no TOWN (ahead of BAD)");
        for (int v : new int[] {LEAST, -2, 201, MOST}) {
            GreyDays x = new GreyDays();
            due("days", x.days(v), STATE);
            due("miss", x.miss(v, v), STATE);
            due("missing", x.missing(v), STATE);
            due("looks", x.looks(v), STATE);
            due("harm", x.harm(v), STATE);
            due("harms", x.harms(v), STATE);
            due("week", x.week(v), STATE);
            due("bestPaint", x.bestPaint(v), STATE);
            due("dyes", x.dyes(v, v), STATE);
            due("thief", x.thief(v), STATE);
            due("seen", x.seen(v, v), STATE);
            due("shelf", x.shelf(v, v), STATE);
            due("parted", x.parted(v, v, v), STATE);
            due("tests", x.tests(v, v, v, v), STATE);
            due("year", x.year(v, v, v), STATE);
            due("image is not so", x.image(v), BAD);
            due("restore is not so", x.restore(v), BAD);
        }
    }

    private static void townWithoutThings() {
        sentence("a TOWN without THINGS");
        GreyDays x = townOf(PLAIN);
        due("undo", x.undo(), STATE);
        due("days", x.days(1), 1);
        due("undo", x.undo(), 0);
        due("paint", x.paint(0, 1), BAD);
        due("miss", x.miss(5, 4), 5);
        due("missing", x.missing(5), 4);
        due("undo", x.undo(), 0);
        due("thing", x.thing(0, 0), BAD);
        due("pair", x.pair(0, 1), BAD);
        due("look", x.look(0, 0), BAD);
        due("alike", x.alike(0, 1, 0), BAD);
        due("like", x.like(0, 0), BAD);
        due("looks", x.looks(100), 0);
        due("harm", x.harm(100), 0);
        due("harms", x.harms(100), 0);
        due("clear", x.week(0), 127);
        due("worst", x.week(1), 0);
        due("bestPaint", x.bestPaint(0), NONE);
        due("bestPaint", x.bestPaint(1), NONE);
        due("dyes", x.dyes(6, 5), 11);
        due("dyes", x.dyes(1, -1), 390);
        due("thief", x.thief(0), NONE);
        due("thief", x.thief(1), NONE);
        x.row(0, 0, 0);
        due("seen", x.seen(0, 0), 127);
        due("seen", x.seen(0, 1), PLACE);
        due("shelf", x.shelf(0, -1), 1);
        due("shelf", x.shelf(0, 0), NONE);
        due("parted", x.parted(0, 1, 0), 0);
        due("parted", x.parted(0, 1, 1), NONE);
        due("merged", x.merged(0, 1), BAD);
        due("tests", x.tests(0, 1, 1, 0), 0);
        due("tests", x.tests(0, 1, 1, 1), 0);
        due("year", x.year(200, 1, 0), 0);
        due("year", x.year(200, 1, 1), 200);
        due("image", x.image(0), 1);
        due("restore", x.restore(0), 1);
        due("kind", x.kind(0), BAD);
        due("as", x.as(0, 0), BAD);
        due("ask", x.ask(0, 0), BAD);
        due("things", x.count(1), 0);
        due("pairs", x.count(2), 0);
        due("harm today", x.count(4), 0);
    }

    private static void thingAlone() {
        sentence("a THING alone");
        GreyDays x = townOf(PLAIN + "w7,3;");
        due("thing", x.thing(0, 3), 0);
        due("no second", x.thing(1, 0), BAD);
        due("pair", x.pair(0, 1), BAD);
        due("pair", x.pair(0, 0), BAD);
        due("alike", x.alike(0, 0, 0), BAD);
        due("alike", x.alike(0, 1, 0), BAD);
        due("like", x.like(0, 0), 1);
        due("looks", x.looks(0), 1);
        due("harm", x.harm(0), 0);
        due("harms", x.harms(100), 0);
        due("clear", x.week(0), 127);
        due("worst", x.week(1), 0);
        due("bestPaint", x.bestPaint(0), 1);
        due("bestPaint", x.bestPaint(1), 0);
        due("thief", x.thief(0), 0);
        due("thief", x.thief(1), 0);
        x.row(0, 0, 1);
        x.set(0, 0, 4);
        // 7 less its least: 4 with 0, 1 missing, 2 with 2 missing, else 6.
        due("seen", x.seen(0, 0), 1 + 2 + 64);
        x.set(0, 0, 2);
        due("seen", x.seen(0, 0), 4);
        due("seen", x.seen(0, 1), PLACE);
        due("shelf", x.shelf(0, -1), 1);
        due("shelf", x.shelf(0, 0), 0);
        due("shelf", x.shelf(0, 1), NONE);
        due("parted", x.parted(0, 1, 0), 0);
        due("parted", x.parted(0, 1, 1), NONE);
        due("merged", x.merged(0, 1), BAD);
        due("merged", x.merged(0, 0), BAD);
        due("tests", x.tests(0, 1, 1, 0), 1);
        due("tests", x.tests(0, 1, 1, 1), 0);
        due("year", x.year(9, 1, 0), 0);
        due("year", x.year(9, 1, 1), 9);
        due("kind", x.kind(0), 2);
        due("as", x.as(0, 1), 0);
        due("ask", x.ask(0, 1), 8);
        due("paint", x.paint(0, 31), 7);
        due("undo", x.undo(), 0);
        due("mix", x.thing(0, 0), 7);
    }
}
