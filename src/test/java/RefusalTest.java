import java.util.ArrayList;
import java.util.List;

/**
 * "What is refused, or found, changes nothing but status()", and "FORETOLD (nothing changes)": two objects are made by
 * the same calls, one of them gets the call in question, and then both are asked for all that they hold.
 */
public final class RefusalTest {
    private static final int NONE = -1000000, BAD = -1000001, STATE = -1000002, FULL = -1000003;
    private static final int NULL = -1000011, PLACE = -1000012, KIND = -1000013, SIZE = -1000014, STORE = -1000015;
    private static final int FAULT = -1000100;
    private static final int LEAST = Integer.MIN_VALUE, MOST = Integer.MAX_VALUE;
    private static final int[] ENDS = {LEAST, -1, 1000000, MOST};
    private static final String PLAIN = "c0,1,2,3,4,5,0;";
    private static final String SEVEN = PLAIN + "d7,0;d6,1;w7,2;s7,1;i7,0;f9,3;d19,0;m0,1,5;m0,2,3;m3,4,7;m5,6,2;";
    private static final String LONGEST = "c00,01,02,03,04,05,00;d10,0;d10,0;d10,0;d10,0;d10,0;d10,0;d10,0;"
        + "m0,1,1;m0,2,1;m0,3,1;m0,4,1;m0,5,1;m0,6,1;m1,2,1;m1,3,1;";

    private interface Call {
        long on(GreyDays x);
    }

    private interface Maker {
        GreyDays make();
    }

    private static int wrong = 0;
    private static int asked = 0;
    private static Maker maker = RefusalTest::rich;

    private static void due(String call, long got, long want) {
        asked++;
        if (got != want) {
            wrong++;
            System.out.println(call + " answered " + got + ", due is " + want);
        }
    }

    private static void feed(GreyDays x, String text) {
        for (int i = 0; i < text.length(); i++) {
            x.feed(text.charAt(i));
        }
    }

    // ---- objects

    /** Something of all that an object holds; the tape has the head of a law. */
    private static GreyDays rich() {
        GreyDays x = new GreyDays();
        feed(x, "c9");
        x.town();
        feed(x, SEVEN);
        x.town();
        writeRows(x);
        x.image(0);
        x.days(2);
        x.paint(0, 9);
        x.miss(2, 4);
        x.ask(2, 0);
        feed(x, "c5,5");
        x.as(0, 4);
        return x;
    }

    private static void writeRows(GreyDays x) {
        for (int row = 0; row <= 2; row++) {
            x.row(row, row, 7 + row);
            for (int i = 0; i < 7; i++) {
                x.set(row, i, i + 1);
            }
        }
        x.row(3, 0, 40);
        x.row(4, 1, 0);
    }

    private static GreyDays empty() {
        GreyDays x = new GreyDays();
        writeRows(x);
        feed(x, "c5,5");
        x.drop(7);
        return x;
    }

    private static GreyDays withoutThings() {
        GreyDays x = new GreyDays();
        feed(x, PLAIN);
        x.town();
        writeRows(x);
        x.days(3);
        x.image(0);
        feed(x, "c5,5");
        x.set(0, 7, 0);
        return x;
    }

    private static GreyDays late() {
        GreyDays x = new GreyDays();
        feed(x, SEVEN);
        x.town();
        for (int i = 0; i < 41; i++) {
            x.days(24);
        }
        x.paint(1, 30);
        feed(x, "c5,5");
        return x;
    }

    private static GreyDays fullTape() {
        GreyDays x = rich();
        x.town();
        feed(x, LONGEST);
        return x;
    }

    // ---- all that an object holds, but status(); it is used up by this

    private static List<Long> held(GreyDays x) {
        List<Long> held = new ArrayList<>();
        add(held, x.fault());
        for (int what = 0; what <= 6; what++) {
            add(held, x.count(what));
        }
        for (int i = 0; i <= 6; i++) {
            add(held, x.trace(i));
        }
        addTown(held, x);
        for (int i = 0; i < 25; i++) {
            add(held, x.undo());
            if (i < 4) {
                add(held, x.count(3));
                add(held, x.thing(0, 0));
                add(held, x.missing(2));
            }
        }
        add(held, x.harms(7));
        for (int image = 0; image <= 1; image++) {
            add(held, x.restore(image));
            add(held, x.count(3));
            add(held, x.harms(7));
            add(held, x.thing(0, 0));
        }
        addRows(held, x);
        return held;
    }

    private static void add(List<Long> held, long answer) {
        held.add(answer);
    }

    private static void addTown(List<Long> held, GreyDays x) {
        for (int i = 0; i <= 6; i++) {
            add(held, x.missing(i));
            add(held, x.kind(i));
            add(held, x.thing(i, 0));
            add(held, x.thing(i, 1));
            add(held, x.thing(i, 3));
            add(held, x.pair(i, (i + 1) % 7));
            add(held, x.pair(i, (i + 2) % 7));
            add(held, x.pair(i, (i + 3) % 7));
        }
    }

    /** The tape is told to its end, and then its THINGS of ink tell what is in the ROWS. */
    private static void addRows(List<Long> held, GreyDays x) {
        if (x.count(6) < 120) {
            feed(x, ",5,5,5,5,5;i1,0;i2,0;i3,0;i4,0;i5,0;i6,0;i7,0;");
        }
        add(held, x.town());
        add(held, x.fault());
        for (int row = 0; row <= 7; row++) {
            add(held, x.seen(row, 0));
            add(held, x.set(row, 0, 1234567));
            add(held, x.drop(row));
        }
    }

    private static void changesNothing(String call, long answer, int statusThen, Call c) {
        GreyDays one = maker.make();
        GreyDays other = maker.make();
        int before = other.status();
        due(call, c.on(one), answer);
        due("status() behind " + call, one.status(), statusThen < 0 ? before : statusThen);
        List<Long> got = held(one);
        List<Long> want = held(other);
        for (int i = 0; i < want.size(); i++) {
            due("what is held, number " + i + ", behind " + call, got.get(i), want.get(i));
        }
    }

    private static void refused(String call, long answer, Call c) {
        changesNothing(call + " is refused", answer, -1, c);
    }

    private static void found(String call, long answer, Call c) {
        changesNothing(call + " is found", answer, (int) (-1000010 - answer), c);
    }

    private static void foretold(String call, long answer, Call c) {
        changesNothing(call + " is foretold", answer, -1, c);
    }

    public static void main(String[] args) {
        rowsRefused();
        found();
        toldRefused();
        doneRefused();
        thingsRefused();
        pairsRefused();
        foretoldRefused();
        askedRefused();
        noTownRefused();
        withoutThingsRefused();
        fullRefused();
        foretold();
        System.out.println("RefusalTest: " + asked + " answers, " + wrong + " wrong");
        if (wrong != 0) {
            System.exit(1);
        }
    }

    private static void rowsRefused() {
        for (int v : new int[] {LEAST, -1, 8, MOST}) {
            refused("row(" + v + ", 0, 1)", BAD, x -> x.row(v, 0, 1));
            refused("row(" + v + ", 0, -1)", BAD, x -> x.row(v, 0, -1));
            refused("set(" + v + ", 0, 1)", BAD, x -> x.set(v, 0, 1));
            refused("copy(" + v + ", 0, 0, 0, 1)", BAD, x -> x.copy(v, 0, 0, 0, 1));
            refused("copy(0, 0, " + v + ", 0, 1)", BAD, x -> x.copy(0, 0, v, 0, 1));
            refused("drop(" + v + ")", BAD, x -> x.drop(v));
            refused("seen(" + v + ", 0)", BAD, x -> x.seen(v, 0));
        }
        for (int v : new int[] {LEAST, -1, 3, MOST}) {
            refused("row(0, " + v + ", 1)", BAD, x -> x.row(0, v, 1));
        }
        for (int v : new int[] {41, MOST}) {
            refused("row(0, 0, " + v + ")", BAD, x -> x.row(0, 0, v));
        }
    }

    private static void found() {
        for (int v : new int[] {LEAST, -1}) {
            found("row(0, 1, " + v + ")", SIZE, x -> x.row(0, 1, v));
            found("row(5, 1, " + v + ")", SIZE, x -> x.row(5, 1, v));
        }
        for (int v : new int[] {5, 6, 7}) {
            found("set(" + v + ", 0, 1)", NULL, x -> x.set(v, 0, 1));
            found("drop(" + v + ")", NULL, x -> x.drop(v));
            found("seen(" + v + ", 0)", NULL, x -> x.seen(v, 0));
            found("copy(" + v + ", 0, 0, 0, 1)", NULL, x -> x.copy(v, 0, 0, 0, 1));
            found("copy(0, 0, " + v + ", 0, 1)", NULL, x -> x.copy(0, 0, v, 0, 1));
        }
        for (int v : new int[] {LEAST, -1, 7, MOST}) {
            found("set(0, " + v + ", 1)", PLACE, x -> x.set(0, v, 1));
            found("copy(0, " + v + ", 3, 0, 1)", PLACE, x -> x.copy(0, v, 3, 0, 1));
            found("copy(3, 0, 0, " + v + ", 1)", PLACE, x -> x.copy(3, 0, 0, v, 1));
        }
        for (int v : new int[] {LEAST, -1, 8, MOST}) {
            found("copy(3, 0, 0, 0, " + v + ")", PLACE, x -> x.copy(3, 0, 0, 0, v));
            found("copy(0, 0, 3, 0, " + v + ")", PLACE, x -> x.copy(0, 0, 3, 0, v));
        }
        for (int v : new int[] {LEAST, -1, 1, MOST}) {
            found("seen(0, " + v + ")", PLACE, x -> x.seen(0, v));
        }
        found("copy(0, 0, 1, 0, 1)", STORE, x -> x.copy(0, 0, 1, 0, 1));
        found("copy(3, 0, 2, 0, 7)", STORE, x -> x.copy(3, 0, 2, 0, 7));
        found("as(0, 2)", KIND, x -> x.as(0, 2));
        found("as(5, 1)", KIND, x -> x.as(5, 1));
    }

    private static void toldRefused() {
        for (int v : new int[] {LEAST, -1, 256, MOST}) {
            refused("feed(" + v + ")", BAD, x -> x.feed(v));
        }
        // A FAULT empties the tape and is the latest one, all else stays: here the tape and the FAULT are made so again.
        changesNothing("town() with a FAULT", FAULT - 1, -1, x -> {
            feed(x, ",5,5,5,5,5;i1,0;i2,0;x");
            long first = x.town();
            due("a FAULT behind two things", first, FAULT - 25);
            feed(x, "c9");
            long answer = x.town();
            feed(x, "c5,5");
            return answer;
        });
    }

    private static void doneRefused() {
        for (int v : new int[] {LEAST, -1, 0, 25, MOST}) {
            refused("days(" + v + ")", BAD, x -> x.days(v));
        }
        for (int v : new int[] {LEAST, -1, 7, MOST}) {
            refused("paint(" + v + ", 1)", BAD, x -> x.paint(v, 1));
            refused("miss(" + v + ", 1)", BAD, x -> x.miss(v, 1));
        }
        for (int v : new int[] {LEAST, -1, 32, MOST}) {
            refused("paint(0, " + v + ")", BAD, x -> x.paint(0, v));
            refused("paint(4, " + v + ")", BAD, x -> x.paint(4, v));
        }
        for (int v : new int[] {LEAST, -1, 6, MOST}) {
            refused("miss(0, " + v + ")", BAD, x -> x.miss(0, v));
        }
        refused("paint(4, 1)", STATE, x -> x.paint(4, 1));
        refused("paint(5, 1)", STATE, x -> x.paint(5, 1));
    }

    private static void thingsRefused() {
        for (int v : new int[] {LEAST, -1, 7, MOST}) {
            refused("thing(" + v + ", 0)", BAD, x -> x.thing(v, 0));
            refused("look(" + v + ", 0)", BAD, x -> x.look(v, 0));
            refused("like(" + v + ", 0)", BAD, x -> x.like(v, 0));
            refused("missing(" + v + ")", BAD, x -> x.missing(v));
            refused("kind(" + v + ")", BAD, x -> x.kind(v));
            refused("as(" + v + ", 0)", BAD, x -> x.as(v, 0));
            refused("ask(" + v + ", 0)", BAD, x -> x.ask(v, 0));
        }
        for (int v : ENDS) {
            refused("thing(0, " + v + ")", BAD, x -> x.thing(0, v));
            refused("look(0, " + v + ")", BAD, x -> x.look(0, v));
            refused("like(0, " + v + ")", BAD, x -> x.like(0, v));
        }
    }

    private static void pairsRefused() {
        for (int v : new int[] {LEAST, -1, 7, MOST, 2}) {
            refused("pair(" + v + ", 2)", BAD, x -> x.pair(v, 2));
            refused("pair(2, " + v + ")", BAD, x -> x.pair(2, v));
            refused("merged(" + v + ", 2)", BAD, x -> x.merged(v, 2));
            refused("merged(2, " + v + ")", BAD, x -> x.merged(2, v));
            refused("alike(" + v + ", 2, 0)", BAD, x -> x.alike(v, 2, 0));
            refused("alike(2, " + v + ", 0)", BAD, x -> x.alike(2, v, 0));
        }
        for (int v : ENDS) {
            refused("alike(0, 1, " + v + ")", BAD, x -> x.alike(0, 1, v));
        }
    }

    private static void foretoldRefused() {
        for (int v : ENDS) {
            refused("looks(" + v + ")", BAD, x -> x.looks(v));
            refused("harm(" + v + ")", BAD, x -> x.harm(v));
            refused("harms(" + v + ")", BAD, x -> x.harms(v));
            refused("week(" + v + ")", BAD, x -> x.week(v));
            refused("bestPaint(" + v + ")", BAD, x -> x.bestPaint(v));
            refused("dyes(" + v + ", 0)", BAD, x -> x.dyes(v, 0));
            refused("thief(" + v + ")", BAD, x -> x.thief(v));
            refused("shelf(" + v + ", 0)", BAD, x -> x.shelf(v, 0));
            refused("parted(" + v + ", 0, 0)", BAD, x -> x.parted(v, 0, 0));
            refused("parted(0, " + v + ", 0)", BAD, x -> x.parted(0, v, 0));
            refused("parted(0, 0, " + v + ")", BAD, x -> x.parted(0, 0, v));
            refused("tests(" + v + ", 0, 0, 0)", BAD, x -> x.tests(v, 0, 0, 0));
            refused("tests(0, " + v + ", 0, 0)", BAD, x -> x.tests(0, v, 0, 0));
            refused("tests(0, 0, " + v + ", 0)", BAD, x -> x.tests(0, 0, v, 0));
            refused("tests(0, 0, 0, " + v + ")", BAD, x -> x.tests(0, 0, 0, v));
            refused("bet(" + v + ", 0, 0)", BAD, x -> x.bet(v, 0, 0));
            refused("bet(3, " + v + ", 0)", BAD, x -> x.bet(3, v, 0));
            refused("bet(3, 1, " + v + ")", BAD, x -> x.bet(3, 1, v));
            refused("year(" + v + ", 1, 0)", BAD, x -> x.year(v, 1, 0));
            refused("year(1, " + v + ", 0)", BAD, x -> x.year(1, v, 0));
            refused("year(1, 1, " + v + ")", BAD, x -> x.year(1, 1, v));
            refused("image(" + v + ")", BAD, x -> x.image(v));
            refused("restore(" + v + ")", BAD, x -> x.restore(v));
        }
        for (int v : new int[] {LEAST, -2, 7, MOST}) {
            refused("dyes(6, " + v + ")", BAD, x -> x.dyes(6, v));
            refused("shelf(0, " + v + ")", BAD, x -> x.shelf(0, v));
        }
        refused("restore(1)", STATE, x -> x.restore(1));
    }

    private static void askedRefused() {
        for (int v : ENDS) {
            refused("as(0, " + v + ")", BAD, x -> x.as(0, v));
            refused("ask(0, " + v + ")", BAD, x -> x.ask(0, v));
            refused("count(" + v + ")", BAD, x -> x.count(v));
            refused("trace(" + v + ")", NONE, x -> x.trace(v));
        }
    }

    private static void noTownRefused() {
        maker = RefusalTest::empty;
        refused("undo()", STATE, GreyDays::undo);
        for (int v : new int[] {-1, 0, 1, 999999}) {
            refused("days(" + v + ")", STATE, x -> x.days(v));
            refused("paint(" + v + ", 1)", BAD, x -> x.paint(v, 1));
            refused("miss(" + v + ", 1)", STATE, x -> x.miss(v, 1));
            refused("thing(" + v + ", 1)", BAD, x -> x.thing(v, 1));
            refused("missing(" + v + ")", STATE, x -> x.missing(v));
            refused("pair(" + v + ", 1)", BAD, x -> x.pair(v, 1));
            refused("look(" + v + ", 1)", BAD, x -> x.look(v, 1));
            refused("alike(" + v + ", 1, 0)", BAD, x -> x.alike(v, 1, 0));
            refused("like(" + v + ", 0)", BAD, x -> x.like(v, 0));
            refused("looks(" + v + ")", STATE, x -> x.looks(v));
            refused("harm(" + v + ")", STATE, x -> x.harm(v));
            refused("harms(" + v + ")", STATE, x -> x.harms(v));
            refused("week(" + v + ")", STATE, x -> x.week(v));
            refused("bestPaint(" + v + ")", STATE, x -> x.bestPaint(v));
            refused("dyes(" + v + ", 0)", STATE, x -> x.dyes(v, 0));
            refused("thief(" + v + ")", STATE, x -> x.thief(v));
            refused("seen(" + v + ", 0)", STATE, x -> x.seen(v, 0));
            refused("shelf(" + v + ", 0)", STATE, x -> x.shelf(v, 0));
            refused("parted(" + v + ", 0, 0)", STATE, x -> x.parted(v, 0, 0));
            refused("merged(" + v + ", 1)", BAD, x -> x.merged(v, 1));
            refused("tests(" + v + ", 0, 0, 0)", STATE, x -> x.tests(v, 0, 0, 0));
            refused("year(" + v + ", 1, 0)", STATE, x -> x.year(v, 1, 0));
            refused("image(" + v + ")", v == 0 || v == 1 ? STATE : BAD, x -> x.image(v));
            refused("restore(" + v + ")", v == 0 || v == 1 ? STATE : BAD, x -> x.restore(v));
            refused("kind(" + v + ")", BAD, x -> x.kind(v));
            refused("as(" + v + ", 0)", BAD, x -> x.as(v, 0));
            refused("ask(" + v + ", 0)", BAD, x -> x.ask(v, 0));
        }
    }

    private static void withoutThingsRefused() {
        maker = RefusalTest::withoutThings;
        refused("paint(0, 1)", BAD, x -> x.paint(0, 1));
        refused("ask(0, 0)", BAD, x -> x.ask(0, 0));
        refused("as(0, 0)", BAD, x -> x.as(0, 0));
        foretold("bestPaint(0)", NONE, x -> x.bestPaint(0));
        foretold("thief(0)", NONE, x -> x.thief(0));
        foretold("shelf(0, 0)", NONE, x -> x.shelf(0, 0));
        foretold("parted(0, 1, 1)", NONE, x -> x.parted(0, 1, 1));
        found("seen(0, 8)", PLACE, x -> x.seen(0, 8));
        maker = () -> {
            GreyDays x = withoutThings();
            x.restore(0);
            return x;
        };
        refused("undo()", STATE, GreyDays::undo);
    }

    private static void fullRefused() {
        maker = RefusalTest::late;
        for (int v = 16; v <= 24; v++) {
            int n = v;
            refused("days(" + n + ") on day 984", FULL, x -> x.days(n));
        }
        maker = RefusalTest::fullTape;
        for (int v : new int[] {0, ';', 255}) {
            refused("feed(" + v + ") on a full tape", FULL, x -> x.feed(v));
        }
        refused("feed(256) on a full tape", BAD, x -> x.feed(256));
    }

    /** Day 2 of SEVEN with MIX 9 for 0, and COLOUR 4 missing today: LOOKS 9, 6, 6, 71, 7, 0, 3. */
    private static void foretold() {
        maker = RefusalTest::rich;
        foretold("look(0, 31)", 0, x -> x.look(0, 31));
        foretold("thing(6, 2)", 3, x -> x.thing(6, 2));
        foretold("alike(1, 2, 0)", 1, x -> x.alike(1, 2, 0));
        foretold("like(1, 0)", 6, x -> x.like(1, 0));
        foretold("looks(0)", 6, x -> x.looks(0));
        foretold("harm(100)", 0, x -> x.harm(100));
        foretold("harms(100)", 0, x -> x.harms(100));
        foretold("week(0)", 127, x -> x.week(0));
        foretold("week(1)", 0, x -> x.week(1));
        foretold("bestPaint(0)", 1, x -> x.bestPaint(0));
        foretold("bestPaint(1)", 0, x -> x.bestPaint(1));
        foretold("dyes(6, 5)", 11, x -> x.dyes(6, 5));
        foretold("dyes(6, -1)", 405, x -> x.dyes(6, -1));
        foretold("thief(0)", 1, x -> x.thief(0));
        foretold("thief(1)", 1, x -> x.thief(1));
        foretold("shelf(0, -1)", 3600, x -> x.shelf(0, -1));
        foretold("shelf(0, 6)", 6, x -> x.shelf(0, 6));
        foretold("parted(0, 4, 0)", 1, x -> x.parted(0, 4, 0));
        foretold("parted(0, 4, 1)", 9, x -> x.parted(0, 4, 1));
        foretold("merged(0, 1)", 15, x -> x.merged(0, 1));
        foretold("tests(0, 1, 1, 0)", 7, x -> x.tests(0, 1, 1, 0));
        foretold("bet(3, 1, 0)", 61, x -> x.bet(3, 1, 0));
        foretold("year(200, 1, 1)", 200, x -> x.year(200, 1, 1));
        foretold("kind(0)", 1, x -> x.kind(0));
        changesNothing("seen(0, 0)", 0, 0, x -> x.seen(0, 0));
        changesNothing("as(5, 4)", 5, 0, x -> x.as(5, 4));
        changesNothing("copy of none", 0, 0, x -> x.copy(0, 7, 3, 40, 0));
        changesNothing("status()", 3, -1, GreyDays::status);
        changesNothing("fault()", 2, -1, GreyDays::fault);
    }
}
