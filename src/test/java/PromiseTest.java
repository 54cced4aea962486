/** Each promise on ordinary inputs, at the edges that the document names, and on wrong inputs; all worked out by hand. */
public final class PromiseTest {
    private static final int NONE = -1000000, BAD = -1000001, STATE = -1000002, FULL = -1000003;
    private static final int NULL = -1000011, PLACE = -1000012, KIND = -1000013, SIZE = -1000014, STORE = -1000015;
    private static final int LEAST = Integer.MIN_VALUE, MOST = Integer.MAX_VALUE;
    private static final String PLAIN = "c0,1,2,3,4,5,0;";

    private static int wrong = 0;
    private static int asked = 0;

    private static void due(int promise, String call, long got, long want) {
        asked++;
        if (got != want) {
            wrong++;
            System.out.println("promise " + promise + ": " + call + " answered " + got + ", due is " + want);
        }
    }

    private static int tell(GreyDays x, String text) {
        for (int i = 0; i < text.length(); i++) {
            x.feed(text.charAt(i));
        }
        return x.town();
    }

    private static GreyDays townOf(String text) {
        GreyDays x = new GreyDays();
        int answer = tell(x, text);
        if (answer < 0) {
            wrong++;
            System.out.println("not a town: " + text + " answered " + answer);
        }
        return x;
    }

    public static void main(String[] args) {
        newObject();
        rowCall();
        setCall();
        copyCall();
        copyFindings();
        dropCall();
        feedCall();
        townCall();
        townFaultsOfOne();
        townFaultsOfTwoAndThree();
        faultCall();
        undoCall();
        daysCall();
        paintCall();
        missCall();
        thingCall();
        missingCall();
        pairCall();
        lookCall();
        alikeCall();
        likeCall();
        looksCall();
        harmCall();
        harmsCall();
        weekCall();
        bestPaintCall();
        dyesCall();
        thiefCall();
        seenCall();
        shelfCall();
        partedCall();
        mergedCall();
        testsCall();
        betCall();
        yearCall();
        imageAndRestore();
        kindAndAs();
        askAndTrace();
        countCall();
        statusCall();
        System.out.println("PromiseTest: " + asked + " answers, " + wrong + " wrong");
        if (wrong != 0) {
            System.exit(1);
        }
    }

    private static void newObject() {
        GreyDays x = new GreyDays();
        for (int what = 0; what <= 6; what++) {
            due(1, "count(" + what + ")", x.count(what), 0);
        }
        due(1, "looks", x.looks(0), STATE);
        due(1, "thing", x.thing(0, 0), BAD);
        due(1, "status", x.status(), 0);
        due(1, "fault", x.fault(), 0);
        due(1, "trace", x.trace(0), NONE);
        due(1, "undo", x.undo(), STATE);
        due(1, "restore", x.restore(1), STATE);
        for (int row = 0; row < 8; row++) {
            due(1, "drop", x.drop(row), NULL);
        }
        due(1, "NONE", GreyDays.NONE, NONE);
        due(1, "BAD", GreyDays.BAD, BAD);
        due(1, "STATE", GreyDays.STATE, STATE);
        due(1, "FULL", GreyDays.FULL, FULL);
    }

    private static void rowCall() {
        GreyDays x = townOf("c5,5,5,5,5,5,5;f1,0;f2,0;");
        due(2, "row 3", x.row(0, 0, 3), 3);
        due(2, "row 40", x.row(7, 2, 40), 40);
        due(2, "row 0", x.row(3, 1, 0), 0);
        due(2, "count", x.count(0), 3);
        due(2, "zero at first", x.seen(0, 0), 127);
        x.set(0, 1, 9);
        due(2, "changed", x.seen(0, 0), 0);
        due(2, "in place of what is there", x.row(0, 2, 2), 2);
        due(2, "zero again", x.seen(0, 0), 127);
        due(2, "lane is new", x.set(0, 0, 70000), 70000);
        due(2, "still three", x.count(0), 3);
        due(2, "row -1", x.row(-1, 0, 1), BAD);
        due(2, "row 8", x.row(8, 0, 1), BAD);
        due(2, "lane -1", x.row(0, -1, 1), BAD);
        due(2, "lane 3", x.row(0, 3, 1), BAD);
        due(2, "n 41", x.row(0, 0, 41), BAD);
        due(2, "n most", x.row(0, 0, MOST), BAD);
        due(2, "BAD ahead of SIZE", x.row(8, 0, -1), BAD);
        due(2, "BAD ahead of SIZE", x.row(0, 3, -1), BAD);
        due(2, "SIZE", x.row(0, 0, -1), SIZE);
        due(2, "SIZE", x.row(5, 0, LEAST), SIZE);
        due(2, "nothing changed", x.set(0, 1, 70001), 70001);
        due(2, "nothing came", x.count(0), 3);
    }

    private static void setCall() {
        GreyDays x = new GreyDays();
        x.row(0, 0, 2);
        x.row(1, 1, 1);
        x.row(2, 2, 40);
        due(3, "byte", x.set(0, 0, 127), 127);
        due(3, "byte", x.set(0, 1, 128), -128);
        due(3, "byte", x.set(0, 0, 255), -1);
        due(3, "byte", x.set(0, 0, 256), 0);
        due(3, "byte", x.set(0, 0, -129), 127);
        due(3, "short", x.set(1, 0, 32767), 32767);
        due(3, "short", x.set(1, 0, 32768), -32768);
        due(3, "short", x.set(1, 0, 40000), -25536);
        due(3, "short", x.set(1, 0, 65536 + 5), 5);
        due(3, "int", x.set(2, 39, MOST), MOST);
        due(3, "int", x.set(2, 0, LEAST), LEAST);
        due(3, "int like an answer", x.set(2, 0, NULL), NULL);
        due(3, "no finding", x.status(), 0);
        due(3, "place -1", x.set(0, -1, 0), PLACE);
        due(3, "place 2", x.set(0, 2, 0), PLACE);
        due(3, "place most", x.set(2, MOST, 0), PLACE);
        due(3, "place least", x.set(2, LEAST, 0), PLACE);
        due(3, "null", x.set(3, 0, 0), NULL);
        due(3, "null ahead of place", x.set(3, -1, 0), NULL);
        due(3, "row 8", x.set(8, 0, 0), BAD);
        due(3, "row -1", x.set(-1, 0, 0), BAD);
    }

    /** Three THINGS of ink look 1, 2, 3 on all WEEKDAYS, so that seen() reads three ITEMS of a ROW. */
    private static GreyDays reader() {
        return townOf("c5,5,5,5,5,5,5;i1,0;i2,0;i3,0;");
    }

    private static void fill(GreyDays x, int row, int... items) {
        for (int i = 0; i < items.length; i++) {
            x.set(row, i, items[i]);
        }
    }

    private static void copyCall() {
        GreyDays x = reader();
        x.row(0, 2, 5);
        x.row(1, 2, 4);
        fill(x, 0, 9, 1, 2, 3, 9);
        due(4, "other row", x.copy(0, 1, 1, 0, 3), 3);
        due(4, "came", x.seen(1, 0), 127);
        due(4, "stayed", x.seen(0, 1), 127);
        due(4, "to the end", x.copy(1, 0, 1, 1, 3), 3);
        due(4, "as they were ahead, upwards", x.seen(1, 1), 127);
        due(4, "downwards", x.copy(0, 1, 0, 0, 4), 4);
        due(4, "as they were ahead, downwards", x.seen(0, 0), 127);
        due(4, "none at the ends", x.copy(0, 5, 1, 4, 0), 0);
        due(4, "nothing moved", x.seen(0, 0), 127);
        x.row(2, 0, 3);
        x.row(3, 0, 3);
        fill(x, 2, 1, 2, 3);
        due(4, "bytes", x.copy(2, 0, 3, 0, 3), 3);
        due(4, "bytes came", x.seen(3, 0), 127);
    }

    private static void copyFindings() {
        GreyDays x = reader();
        x.row(0, 2, 5);
        x.row(1, 2, 4);
        x.row(2, 1, 5);
        fill(x, 0, 1, 2, 3, 0, 0);
        due(4, "row 8", x.copy(8, 0, 0, 0, 0), BAD);
        due(4, "row -1", x.copy(0, 0, -1, 0, 0), BAD);
        due(4, "BAD ahead of NULL", x.copy(7, 0, 8, 0, 0), BAD);
        due(4, "null a", x.copy(7, 0, 0, 0, 0), NULL);
        due(4, "null b", x.copy(0, 0, 7, 0, 0), NULL);
        due(4, "NULL ahead of PLACE", x.copy(0, -1, 7, 0, 0), NULL);
        due(4, "store", x.copy(0, 0, 2, 0, 1), STORE);
        due(4, "status", x.status(), 5);
        due(4, "STORE though none", x.copy(0, 0, 2, 0, 0), STORE);
        due(4, "STORE ahead of PLACE", x.copy(0, 0, 2, 0, -1), STORE);
        due(4, "i below", x.copy(0, -1, 1, 0, 1), PLACE);
        due(4, "j below", x.copy(0, 0, 1, -1, 1), PLACE);
        due(4, "n below", x.copy(0, 0, 1, 0, -1), PLACE);
        due(4, "beyond a", x.copy(1, 2, 0, 0, 3), PLACE);
        due(4, "beyond b", x.copy(0, 0, 1, 0, 5), PLACE);
        due(4, "beyond b by j", x.copy(0, 0, 1, 5, 0), PLACE);
        due(4, "beyond a by i", x.copy(0, 6, 1, 0, 0), PLACE);
        due(4, "i most", x.copy(0, MOST, 1, 0, 1), PLACE);
        due(4, "j most", x.copy(0, 0, 1, MOST, MOST), PLACE);
        due(4, "n most", x.copy(0, 1, 1, 0, MOST), PLACE);
        due(4, "all stays", x.seen(0, 0), 127);
        due(4, "b stays", x.seen(1, 0), 0);
    }

    private static void dropCall() {
        GreyDays x = new GreyDays();
        x.row(4, 1, 17);
        x.row(5, 1, 0);
        due(5, "17", x.drop(4), 17);
        due(5, "count", x.count(0), 1);
        due(5, "missing", x.drop(4), NULL);
        due(5, "missing for set", x.set(4, 0, 0), NULL);
        due(5, "0", x.drop(5), 0);
        due(5, "none left", x.count(0), 0);
        due(5, "row 8", x.drop(8), BAD);
        due(5, "row -1", x.drop(-1), BAD);
        due(5, "again", x.row(4, 0, 2), 2);
        due(5, "again there", x.drop(4), 2);
    }

    private static void feedCall() {
        GreyDays x = new GreyDays();
        due(6, "0", x.feed(0), 1);
        due(6, "255", x.feed(255), 2);
        due(6, "-1", x.feed(-1), BAD);
        due(6, "256", x.feed(256), BAD);
        for (int i = 3; i <= 120; i++) {
            due(6, "byte " + i, x.feed('c'), i);
        }
        due(6, "full", x.feed('c'), FULL);
        due(6, "BAD ahead of FULL", x.feed(256), BAD);
        due(6, "count", x.count(6), 120);
        due(6, "zero is no token", x.town(), -1000100);
        due(6, "empty", x.count(6), 0);
        due(6, "room again", x.feed('c'), 1);
    }

    private static void townCall() {
        GreyDays x = new GreyDays();
        due(7, "no things", tell(x, PLAIN), 0);
        due(7, "two figures, with nothing ahead", tell(x, "c00,01,02,03,04,05,00;d07,03;w31,00;m00,01,01;"), 2);
        due(7, "mix", x.thing(0, 0), 7);
        due(7, "shape", x.thing(0, 1), 3);
        due(7, "harm", x.pair(1, 0), 1);
        x.days(3);
        x.paint(0, 1);
        due(7, "in place of the one before", tell(x, "c5,4,3,2,1,0,5;f31,3;"), 1);
        due(7, "day 0", x.count(3), 0);
        due(7, "no acts", x.count(5), 0);
        due(7, "no pairs", x.count(2), 0);
        due(7, "week", x.missing(1), 4);
        due(7, "tape is empty", x.count(6), 0);
        x.days(2);
        due(7, "a fault", tell(x, "c5,4,3,2,1,0,5;f31,3;x"), -1000121);
        due(7, "all stays", x.count(1), 1);
        due(7, "the day stays", x.count(3), 2);
        due(7, "acts stay", x.count(5), 2);
        due(7, "the tape does not", x.count(6), 0);
        due(7, "seven things, eight pairs", tell(x, PLAIN + "d1,0;d2,0;d3,0;d4,0;d5,0;d6,0;d7,0;"
            + "m0,1,1;m0,2,1;m0,3,1;m0,4,1;m0,5,1;m0,6,1;m1,2,1;m6,5,1;"), 7);
        due(7, "pairs", x.count(2), 8);
        due(7, "harm 20", tell(x, PLAIN + "d1,0;d2,0;m1,0,20;"), 2);
        due(7, "harm 20", x.pair(0, 1), 20);
    }

    private static void fault(int number, int place, String text) {
        GreyDays x = new GreyDays();
        due(7, "'" + text + "'", tell(x, text), -1000100 - place);
        due(8, "fault of '" + text + "'", x.fault(), number);
        due(7, "no town by '" + text + "'", x.harm(0), STATE);
    }

    private static void townFaultsOfOne() {
        fault(1, 0, "");
        fault(1, 0, "d1,0;");
        fault(1, 0, "C0,0,0,0,0,0,0;");
        fault(1, 0, " c0,0,0,0,0,0,0;");
        fault(1, 1, "c");
        fault(1, 1, "cc");
        fault(1, 1, "c,");
        fault(1, 1, "c000,0,0,0,0,0,0;");
        fault(1, 1, "c9999,0,0,0,0,0,0;");
        fault(1, 2, "c0;0,0,0,0,0,0;");
        fault(1, 2, "c0 ,0,0,0,0,0,0;");
        fault(1, 14, "c0,0,0,0,0,0,0");
        fault(1, 14, "c0,0,0,0,0,0,0,0;");
        fault(1, 15, PLAIN + "c");
        fault(1, 15, PLAIN + "x1,0;");
        fault(1, 15, PLAIN + "7");
        fault(1, 15, PLAIN + ";");
        fault(1, 15, PLAIN + (char) 228);
        fault(1, 16, PLAIN + "d");
        fault(1, 16, PLAIN + "dd1,0;");
        fault(1, 16, PLAIN + "d-1,0;");
        fault(1, 16, PLAIN + "d031,0;");
        fault(1, 16, PLAIN + "d999,0;");
        fault(1, 17, PLAIN + "d1;0;");
        fault(1, 18, PLAIN + "d1,");
        fault(1, 18, PLAIN + "d1,,");
        fault(1, 18, PLAIN + "d1,000;");
        fault(1, 19, PLAIN + "d1,0");
        fault(1, 19, PLAIN + "d1,0,");
        fault(1, 27, PLAIN + "d1,0;d2,0;m0");
        fault(1, 29, PLAIN + "d1,0;d2,0;m0,1;");
        fault(1, 30, PLAIN + "d1,0;d2,0;m0,1,");
        fault(1, 30, PLAIN + "d1,0;d2,0;m0,1,100;");
        fault(1, 31, PLAIN + "d1,0;d2,0;m0,1,1,");
        fault(1, 32, PLAIN + "d1,0;d2,0;m0,1,1;d3,0;");
        fault(1, 57, PLAIN + "d1,0;d1,0;d1,0;d1,0;d1,0;d1,0;d1,0;m0,1,1;d1,0;");
    }

    private static void townFaultsOfTwoAndThree() {
        fault(2, 1, "c6,0,0,0,0,0,0;");
        fault(2, 13, "c0,0,0,0,0,0,6;");
        fault(2, 3, "c0,99x");
        fault(2, 16, PLAIN + "d32,0;");
        fault(2, 16, PLAIN + "i99,9;");
        fault(2, 18, PLAIN + "d0,4;");
        fault(2, 19, PLAIN + "d31,04;");
        fault(2, 16, PLAIN + "m0,1,1;");
        fault(2, 26, PLAIN + "d1,0;d2,0;m2,0,1;");
        fault(2, 28, PLAIN + "d1,0;d2,0;m0,2,1;");
        fault(2, 28, PLAIN + "d1,0;d2,0;m0,0,1;");
        fault(2, 28, PLAIN + "d1,0;d2,0;m1,01;");
        fault(2, 30, PLAIN + "d1,0;d2,0;m0,1,0;");
        fault(2, 30, PLAIN + "d1,0;d2,0;m0,1,21;");
        fault(2, 35, PLAIN + "d1,0;d2,0;m0,1,1;m0,1,1;");
        fault(2, 35, PLAIN + "d1,0;d2,0;m0,1,1;m1,0,2;");
        String seven = PLAIN + "d1,0;w1,0;s1,0;i1,0;f1,0;d1,0;d1,0;";
        for (char sort : "dwsif".toCharArray()) {
            fault(3, 50, seven + sort + "1,0;");
            fault(3, 50, seven + sort);
        }
        fault(1, 50, seven + "x");
        String eight = seven + "m0,1,1;m0,2,1;m0,3,1;m0,4,1;m0,5,1;m0,6,1;m1,2,1;m1,3,1;";
        fault(3, 106, eight + "m0,1,1;");
        fault(3, 106, eight + "m");
        fault(1, 106, eight + "d");
        fault(1, 106, eight + ",");
    }

    private static void faultCall() {
        GreyDays x = new GreyDays();
        due(8, "none", x.fault(), 0);
        tell(x, PLAIN);
        due(8, "none yet", x.fault(), 0);
        tell(x, "c6");
        due(8, "2", x.fault(), 2);
        tell(x, PLAIN);
        due(8, "the latest stays", x.fault(), 2);
        tell(x, "x");
        due(8, "1", x.fault(), 1);
    }

    private static void undoCall() {
        GreyDays x = townOf(PLAIN + "d7,0;w6,0;");
        due(9, "none", x.undo(), STATE);
        x.paint(0, 1);
        x.days(2);
        x.miss(2, 5);
        x.paint(0, 2);
        due(9, "paint", x.undo(), 4);
        due(9, "mix", x.thing(0, 0), 1);
        due(9, "miss", x.undo(), 3);
        due(9, "colour", x.missing(2), 2);
        due(9, "day", x.undo(), 2);
        due(9, "one day less", x.count(3), 1);
        due(9, "day", x.undo(), 1);
        due(9, "day 0", x.count(3), 0);
        due(9, "paint", x.undo(), 0);
        due(9, "mix", x.thing(0, 0), 7);
        due(9, "none left", x.undo(), STATE);
        x.paint(1, 3);
        x.days(24);
        due(9, "24 at most", x.count(5), 24);
        for (int left = 23; left >= 0; left--) {
            due(9, "undo", x.undo(), left);
        }
        due(9, "the oldest is forgotten", x.undo(), STATE);
        due(9, "its paint stays", x.thing(1, 0), 3);
        due(9, "day 0", x.count(3), 0);
        x.paint(0, 9);
        x.image(0);
        x.restore(0);
        due(9, "not after restore", x.undo(), STATE);
        x.paint(0, 9);
        due(9, "the same MIX is an ACT too", x.count(5), 1);
        tell(x, PLAIN);
        due(9, "not of the town before", x.undo(), STATE);
    }

    private static void daysCall() {
        GreyDays x = new GreyDays();
        due(10, "no town", x.days(1), STATE);
        due(10, "STATE ahead of BAD", x.days(0), STATE);
        tell(x, PLAIN);
        due(10, "0", x.days(0), BAD);
        due(10, "25", x.days(25), BAD);
        due(10, "-1", x.days(-1), BAD);
        due(10, "most", x.days(MOST), BAD);
        due(10, "1", x.days(1), 1);
        due(10, "an act each", x.days(5), 6);
        due(10, "acts", x.count(5), 6);
        for (int day = 30; day <= 990; day += 24) {
            due(10, "24", x.days(24), day);
        }
        due(10, "beyond 999", x.days(10), FULL);
        due(10, "BAD ahead of FULL", x.days(25), BAD);
        due(10, "nothing changed", x.count(3), 990);
        due(10, "999", x.days(9), 999);
        due(10, "1000", x.days(1), FULL);
    }

    private static void paintCall() {
        GreyDays x = new GreyDays();
        due(11, "no town", x.paint(0, 1), BAD);
        tell(x, PLAIN + "d7,0;w6,0;s5,1;i4,0;f3,0;");
        due(11, "dyed", x.paint(0, 0), 7);
        due(11, "dyed again", x.paint(0, 31), 0);
        due(11, "twin", x.paint(1, 1), 6);
        due(11, "shining", x.paint(2, 2), 5);
        due(11, "acts", x.count(5), 4);
        due(11, "ink", x.paint(3, 1), STATE);
        due(11, "faded", x.paint(4, 1), STATE);
        due(11, "BAD ahead of STATE", x.paint(3, 32), BAD);
        due(11, "mix -1", x.paint(0, -1), BAD);
        due(11, "mix 32", x.paint(0, 32), BAD);
        due(11, "thing 5", x.paint(5, 1), BAD);
        due(11, "thing -1", x.paint(-1, 1), BAD);
        due(11, "acts", x.count(5), 4);
        due(11, "mix", x.thing(0, 0), 31);
        due(11, "mix", x.thing(2, 0), 2);
        due(11, "ink stays", x.thing(3, 0), 4);
    }

    private static void missCall() {
        GreyDays x = new GreyDays();
        due(12, "no town", x.miss(0, 0), STATE);
        due(12, "STATE ahead of BAD", x.miss(7, 0), STATE);
        tell(x, PLAIN + "d3,0;");
        due(12, "was 0", x.miss(0, 5), 0);
        due(12, "was 5", x.miss(0, 1), 5);
        due(12, "look changes", x.thing(0, 2), 1);
        due(12, "weekday 6", x.miss(6, 4), 0);
        due(12, "acts", x.count(5), 3);
        due(12, "-1", x.miss(-1, 0), BAD);
        due(12, "7", x.miss(7, 0), BAD);
        due(12, "colour -1", x.miss(0, -1), BAD);
        due(12, "colour 6", x.miss(0, 6), BAD);
        due(12, "the same", x.miss(6, 4), 4);
        due(12, "an act as well", x.count(5), 4);
    }

    /** Looks, with 0 missing: 6, 6, 4, 70, 7, 0, 18. */
    private static GreyDays seven() {
        return townOf(PLAIN + "d7,0;d6,1;w7,2;s7,1;i7,0;f9,3;d19,0;m0,1,5;m0,2,3;m3,4,7;m5,6,2;");
    }

    private static void thingCall() {
        GreyDays x = seven();
        int[][] told = {{7, 0, 6, 8}, {6, 1, 6, 5}, {7, 2, 4, 3}, {7, 1, 70, 7}, {7, 0, 7, 7}, {9, 3, 0, 2},
            {19, 0, 18, 2}};
        for (int i = 0; i < 7; i++) {
            for (int what = 0; what < 4; what++) {
                due(13, "thing(" + i + ", " + what + ")", x.thing(i, what), told[i][what]);
            }
        }
        x.days(1);
        due(13, "look on the next day", x.thing(0, 2), 5);
        due(13, "twin on the next day", x.thing(2, 2), 4);
        x.days(4);
        due(13, "nothing missing", x.thing(2, 2), 6);
        due(13, "what 4", x.thing(0, 4), BAD);
        due(13, "what -1", x.thing(0, -1), BAD);
        due(13, "thing 7", x.thing(7, 0), BAD);
        due(13, "thing -1", x.thing(-1, 0), BAD);
        due(13, "no town", new GreyDays().thing(0, 0), BAD);
    }

    private static void missingCall() {
        GreyDays x = new GreyDays();
        due(14, "no town", x.missing(0), STATE);
        due(14, "STATE ahead of BAD", x.missing(7), STATE);
        tell(x, "c5,4,3,2,1,0,2;");
        int[] week = {5, 4, 3, 2, 1, 0, 2};
        for (int weekday = 0; weekday < 7; weekday++) {
            due(14, "missing(" + weekday + ")", x.missing(weekday), week[weekday]);
        }
        x.days(1);
        due(14, "by weekdays, not from today", x.missing(0), 5);
        due(14, "7", x.missing(7), BAD);
        due(14, "-1", x.missing(-1), BAD);
    }

    private static void pairCall() {
        GreyDays x = seven();
        due(15, "0, 1", x.pair(0, 1), 5);
        due(15, "1, 0", x.pair(1, 0), 5);
        due(15, "4, 3", x.pair(4, 3), 7);
        due(15, "no pair", x.pair(1, 2), 0);
        due(15, "alike", x.pair(2, 2), BAD);
        due(15, "7", x.pair(0, 7), BAD);
        due(15, "-1", x.pair(-1, 0), BAD);
        due(15, "no town", new GreyDays().pair(0, 1), BAD);
    }

    private static void lookCall() {
        GreyDays x = townOf(PLAIN + "d29,2;w29,2;s29,2;i29,2;f29,2;w1,0;s0,3;");
        due(16, "dyed", x.look(0, 0), 29);
        due(16, "dyed", x.look(0, 9), 20);
        due(16, "dyed", x.look(0, 31), 0);
        due(16, "twin", x.look(1, 0), 28);
        due(16, "twin without its least that is left", x.look(1, 5), 16);
        due(16, "twin of one left", x.look(1, 13), 16);
        due(16, "twin of none left", x.look(1, 31), 0);
        due(16, "twin of one", x.look(5, 2), 1);
        due(16, "shining", x.look(2, 0), 125);
        due(16, "shining", x.look(2, 31), 96);
        due(16, "shining of nothing", x.look(6, 0), 128);
        due(16, "ink", x.look(3, 31), 29);
        due(16, "faded", x.look(4, 0), 0);
        due(16, "set -1", x.look(0, -1), BAD);
        due(16, "set 32", x.look(0, 32), BAD);
        due(16, "thing 7", x.look(7, 0), BAD);
        due(16, "thing -1", x.look(-1, 0), BAD);
        due(16, "no town", new GreyDays().look(0, 0), BAD);
    }

    private static void alikeCall() {
        GreyDays x = seven();
        due(17, "today", x.alike(0, 1, 0), 1);
        due(17, "tomorrow", x.alike(0, 1, 1), 0);
        due(17, "a week on", x.alike(1, 0, 7), 1);
        due(17, "day 99, weekday 1", x.alike(0, 1, 99), 0);
        due(17, "day 98, weekday 0", x.alike(0, 1, 98), 1);
        due(17, "day 100", x.alike(0, 1, 100), 0);
        x.days(6);
        due(17, "weekday 6", x.alike(0, 1, 0), 1);
        due(17, "weekday 0 behind it", x.alike(0, 1, 1), 1);
        due(17, "one with itself", x.alike(3, 3, 0), BAD);
        due(17, "day 101", x.alike(0, 1, 101), BAD);
        due(17, "day -1", x.alike(0, 1, -1), BAD);
        due(17, "thing 7", x.alike(0, 7, 0), BAD);
        due(17, "thing -1", x.alike(-1, 0, 0), BAD);
        due(17, "no town", new GreyDays().alike(0, 1, 0), BAD);
    }

    private static void likeCall() {
        GreyDays x = seven();
        due(18, "0 with 1", x.like(0, 0), 3);
        due(18, "1 with 0", x.like(1, 0), 3);
        due(18, "itself alone", x.like(4, 0), 16);
        due(18, "nothing missing: 7 of 0 and ink", x.like(0, 5), 17);
        due(18, "nothing missing: 6 of 1 and the twin", x.like(2, 5), 6);
        due(18, "day 100 is weekday 2", x.like(0, 100), 1);
        due(18, "day 101", x.like(0, 101), BAD);
        due(18, "day -1", x.like(0, -1), BAD);
        due(18, "thing 7", x.like(7, 0), BAD);
        due(18, "no town", new GreyDays().like(0, 0), BAD);
    }

    private static void looksCall() {
        GreyDays x = new GreyDays();
        due(19, "no town", x.looks(0), STATE);
        due(19, "STATE ahead of BAD", x.looks(-1), STATE);
        tell(x, PLAIN);
        due(19, "no things", x.looks(0), 0);
        x = seven();
        due(19, "6 6 4 70 7 0 18", x.looks(0), 6);
        due(19, "7 6 6 71 7 0 19", x.looks(5), 5);
        due(19, "100: 3 2 2 67 7 0 19", x.looks(100), 6);
        due(19, "101", x.looks(101), BAD);
        due(19, "-1", x.looks(-1), BAD);
    }

    private static void harmCall() {
        GreyDays x = new GreyDays();
        due(20, "no town", x.harm(0), STATE);
        due(20, "STATE ahead of BAD", x.harm(101), STATE);
        x = seven();
        due(20, "0 and 1 alike", x.harm(0), 5);
        due(20, "weekday 1: 5 4 4 69 7 0 17", x.harm(1), 0);
        due(20, "a week on", x.harm(7), 5);
        due(20, "6", x.harm(6), 5);
        due(20, "101", x.harm(101), BAD);
        due(20, "-1", x.harm(-1), BAD);
        x.days(1);
        due(20, "from tomorrow", x.harm(0), 0);
        due(20, "from tomorrow on", x.harm(5), 5);
    }

    private static void harmsCall() {
        GreyDays x = new GreyDays();
        due(21, "no town", x.harms(1), STATE);
        due(21, "STATE ahead of BAD", x.harms(0), STATE);
        x = seven();
        due(21, "1", x.harms(1), 5);
        due(21, "6", x.harms(6), 5);
        due(21, "7", x.harms(7), 10);
        due(21, "8", x.harms(8), 15);
        due(21, "100: 14 weeks, 2 days", x.harms(100), 145);
        due(21, "0", x.harms(0), BAD);
        due(21, "101", x.harms(101), BAD);
        due(21, "-1", x.harms(-1), BAD);
    }

    private static void weekCall() {
        GreyDays x = new GreyDays();
        due(22, "no town", x.week(0), STATE);
        due(22, "STATE ahead of BAD", x.week(2), STATE);
        x = seven();
        due(22, "clear", x.week(0), 127 - 1 - 64);
        due(22, "worst, the first", x.week(1), 0);
        x.days(2);
        due(22, "clear, today first", x.week(0), 127 - 16 - 32);
        due(22, "worst from today", x.week(1), 4);
        due(22, "2", x.week(2), BAD);
        due(22, "-1", x.week(-1), BAD);
        tell(x, PLAIN);
        due(22, "all clear", x.week(0), 127);
        due(22, "none worse", x.week(1), 0);
    }

    private static void bestPaintCall() {
        GreyDays x = new GreyDays();
        due(23, "no town", x.bestPaint(0), STATE);
        due(23, "STATE ahead of BAD", x.bestPaint(2), STATE);
        x = seven();
        // MIX 1 of thing 0: 0, 1 .. with 0 missing, else 1; unlike 6 and its kin, unlike the twin's.
        due(23, "which", x.bestPaint(0), 1);
        due(23, "harm", x.bestPaint(1), 0);
        due(23, "nothing is painted", x.thing(0, 0), 7);
        tell(x, "c5,5,5,5,5,5,5;i1,0;i1,0;m0,1,9;");
        due(23, "all of ink", x.bestPaint(0), NONE);
        due(23, "all of ink", x.bestPaint(1), NONE);
        // Ink looks 1 always; dyed 1 is alike while 0 is not missing; painted 2 it is alike never.
        tell(x, "c0,5,5,5,5,5,5;i1,0;d1,0;m0,1,9;");
        due(23, "the second", x.bestPaint(0), 32 + 2);
        due(23, "harm", x.bestPaint(1), 0);
        // The ones that can be painted are in no pair: HARM stays, the first is told.
        tell(x, "c0,5,5,5,5,5,5;f1,0;i0,0;d9,0;s9,0;m0,1,2;");
        due(23, "the first by things, then mix", x.bestPaint(0), 64 + 1);
        due(23, "harm stays", x.bestPaint(1), 14);
        // Only WEEKDAY 0 has no COLOUR 1: a faded one is alike with dyed 2 then, and 1 by 0 on the six others.
        tell(x, "c1,0,0,0,0,0,0;f0,0;d1,0;m0,1,3;");
        due(23, "3 is never nothing", x.bestPaint(0), 32 + 3);
        due(23, "harm", x.bestPaint(1), 0);
        due(23, "2", x.bestPaint(2), BAD);
        due(23, "-1", x.bestPaint(-1), BAD);
        tell(x, PLAIN);
        due(23, "no things", x.bestPaint(1), NONE);
    }

    private static void dyesCall() {
        GreyDays x = new GreyDays();
        due(24, "no town", x.dyes(1, 0), STATE);
        due(24, "STATE ahead of BAD", x.dyes(0, 0), STATE);
        tell(x, "c5,5,5,5,5,5,5;d1,0;");
        due(24, "no colour missing", x.dyes(3, 2), 3);
        due(24, "all pairs", x.dyes(3, -1), 465);
        tell(x, "c4,4,4,4,4,4,5;");
        due(24, "by 16 alone: 15 pairs are alike, 16 has no other", x.dyes(1, -1), 450);
        due(24, "the sixth", x.dyes(6, 5), 6);
        tell(x, PLAIN);
        int[] row = {1, 2, 4, 7, 8, 11};
        for (int n = 1; n <= 6; n++) {
            for (int k = 0; k < n; k++) {
                due(24, "dyes(" + n + ", " + k + ")", x.dyes(n, k), row[k]);
            }
            due(24, "rows of 2", x.dyes(n, -1), 465 - 75);
            due(24, "k is n", x.dyes(n, n), BAD);
        }
        x.miss(0, 5);
        x.miss(6, 5);
        for (int k = 0; k < 6; k++) {
            due(24, "0 is not missing, the " + k, x.dyes(6, k), row[k]);
        }
        due(24, "rows of 2", x.dyes(2, -1), 465 - 60);
        tell(x, "c0,0,0,0,0,0,0;");
        int[] even = {1, 2, 4, 6, 8, 10};
        for (int k = 0; k < 6; k++) {
            due(24, "0 alone is missing, the " + k, x.dyes(6, k), even[k]);
        }
        due(24, "0", x.dyes(0, -1), BAD);
        due(24, "7", x.dyes(7, 0), BAD);
        due(24, "k -2", x.dyes(2, -2), BAD);
    }

    private static void thiefCall() {
        GreyDays x = new GreyDays();
        due(25, "no town", x.thief(0), STATE);
        due(25, "STATE ahead of BAD", x.thief(2), STATE);
        tell(x, PLAIN);
        due(25, "no things", x.thief(0), NONE);
        due(25, "no things", x.thief(1), NONE);
        tell(x, PLAIN + "i5,0;");
        due(25, "alone", x.thief(0), 0);
        due(25, "alone", x.thief(1), 0);
        // Only with 3 missing (weekday 3) are 1, 2 and 3 alike.
        tell(x, PLAIN + "i9,0;d1,0;d9,1;i1,2;");
        due(25, "7 times 3, and 1", x.thief(0), 22);
        due(25, "with two", x.thief(1), 2);
        x.days(1);
        due(25, "a day nearer", x.thief(0), 15);
        x.days(3);
        due(25, "in six days", x.thief(0), 43);
        due(25, "2", x.thief(2), BAD);
        due(25, "-1", x.thief(-1), BAD);
    }

    private static void seenCall() {
        GreyDays x = new GreyDays();
        due(26, "no town", x.seen(0, 0), STATE);
        due(26, "STATE ahead of BAD", x.seen(8, 0), STATE);
        tell(x, PLAIN + "d3,0;s1,3;");
        x.row(0, 2, 4);
        fill(x, 0, 0, 2, 128);
        due(26, "0 missing", x.seen(0, 1), 1 + 64);
        fill(x, 0, 0, 1, 129);
        due(26, "1 missing", x.seen(0, 1), 2);
        fill(x, 0, 0, 3, 129);
        due(26, "others", x.seen(0, 1), 4 + 8 + 16 + 32);
        due(26, "never", x.seen(0, 0), 0);
        x.days(3);
        due(26, "by weekdays, not from today", x.seen(0, 1), 60);
        due(26, "to the end", x.seen(0, 2), 0);
        due(26, "beyond the end", x.seen(0, 3), PLACE);
        due(26, "i -1", x.seen(0, -1), PLACE);
        due(26, "i most", x.seen(0, MOST), PLACE);
        due(26, "status", x.status(), 2);
        due(26, "missing", x.seen(1, 0), NULL);
        due(26, "NULL ahead of PLACE", x.seen(1, -1), NULL);
        due(26, "row 8", x.seen(8, 0), BAD);
        due(26, "row -1", x.seen(-1, 0), BAD);
        x.row(2, 0, 2);
        fill(x, 2, 3, 129);
        due(26, "a byte is no 129", x.seen(2, 0), 0);
        x.row(2, 1, 2);
        fill(x, 2, 3, 129);
        due(26, "a short is", x.seen(2, 0), 60);
        tell(x, PLAIN);
        due(26, "no things", x.seen(2, 2), 127);
        due(26, "no things, beyond the end", x.seen(2, 3), PLACE);
    }

    private static void shelfCall() {
        GreyDays x = new GreyDays();
        due(27, "no town", x.shelf(0, 0), STATE);
        due(27, "STATE ahead of BAD", x.shelf(0, 7), STATE);
        tell(x, PLAIN);
        due(27, "no things", x.shelf(0, -1), 1);
        due(27, "no things", x.shelf(0, 0), NONE);
        tell(x, "c0,1,5,5,5,5,5;i1,0;i1,0;i1,0;i2,0;d3,0;");
        // 1 1 1 2 2 with 0 missing: a 1 on each even place: 3! times 2!.
        due(27, "today", x.shelf(0, -1), 12);
        int[] first = {0, 3, 1, 4, 2};
        for (int k = 0; k < 5; k++) {
            due(27, "the " + k, x.shelf(0, k), first[k]);
        }
        due(27, "k 5", x.shelf(0, 5), NONE);
        due(27, "k 6", x.shelf(0, 6), NONE);
        // 1 1 1 2 1 with 1 missing: never.
        due(27, "tomorrow", x.shelf(1, -1), 0);
        due(27, "tomorrow", x.shelf(1, 0), NONE);
        // 1 1 1 2 3: a 1 on each even place.
        due(27, "day 2", x.shelf(2, -1), 12);
        due(27, "d 101", x.shelf(101, 0), BAD);
        due(27, "d -1", x.shelf(-1, 0), BAD);
        due(27, "k -2", x.shelf(0, -2), BAD);
        due(27, "k 7", x.shelf(0, 7), BAD);
        tell(x, PLAIN + "i0,0;i1,0;i2,0;i3,0;i4,0;i5,0;i6,0;");
        due(27, "all unlike", x.shelf(100, -1), 5040);
        due(27, "the last", x.shelf(100, 6), 6);
        tell(x, PLAIN + "i0,0;i0,0;i1,0;i1,0;");
        due(27, "two and two", x.shelf(0, -1), 8);
        due(27, "0 2 1 3", x.shelf(0, 1) * 100 + x.shelf(0, 2) * 10 + x.shelf(0, 3), 213);
    }

    private static void partedCall() {
        GreyDays x = new GreyDays();
        due(28, "no town", x.parted(0, 1, 0), STATE);
        due(28, "STATE ahead of BAD", x.parted(-1, 1, 0), STATE);
        // With 0 missing: 2 2 2 4; with 1: 1 2 0 4; with 2: 3 2 2 0.
        tell(x, PLAIN + "d3,0;i2,0;d2,0;d4,0;");
        due(28, "on 0, not on 1", x.parted(0, 1, 0), 3);
        due(28, "the first", x.parted(0, 1, 1), 1);
        due(28, "on 0, not on 2", x.parted(0, 2, 0), 2);
        due(28, "on 2, not on 1", x.parted(2, 1, 0), 1);
        due(28, "the first: 1, 2", x.parted(2, 1, 1), 9);
        due(28, "on 1, not on 0", x.parted(1, 0, 0), 0);
        due(28, "none", x.parted(1, 0, 1), NONE);
        due(28, "the same day", x.parted(0, 0, 0), 0);
        due(28, "day 100 is weekday 2", x.parted(100, 99, 0), 1);
        due(28, "d 101", x.parted(101, 0, 0), BAD);
        due(28, "e 101", x.parted(0, 101, 0), BAD);
        due(28, "d -1", x.parted(-1, 0, 0), BAD);
        due(28, "e -1", x.parted(0, -1, 0), BAD);
        due(28, "what 2", x.parted(0, 1, 2), BAD);
        due(28, "what -1", x.parted(0, 1, -1), BAD);
    }

    private static void mergedCall() {
        GreyDays x = townOf(PLAIN + "d7,0;d25,0;i7,0;s7,0;w7,0;f0,0;w25,0;");
        due(29, "7 and 25", x.merged(0, 1), 2 + 4 + 8 + 16);
        due(29, "7 and ink 7", x.merged(0, 2), 0);
        due(29, "7 and shining", x.merged(0, 3), NONE);
        due(29, "ink and shining", x.merged(2, 3), NONE);
        due(29, "ink 7 and 25", x.merged(2, 1), NONE);
        // 7 and the twin's 6: with two of 1, 2, 4 missing both have the one that is left.
        due(29, "7 and its twin", x.merged(0, 4), 3);
        due(29, "25 and nothing", x.merged(1, 5), 25);
        due(29, "nothing and 25", x.merged(5, 1), 25);
        due(29, "ink and nothing", x.merged(2, 5), NONE);
        // Twins 7 and 25: with 2, 4 missing and 8, 16 missing 1 is left for both.
        due(29, "two twins", x.merged(4, 6), 2 + 4 + 8 + 16);
        due(29, "alike", x.merged(1, 1), BAD);
        due(29, "7", x.merged(0, 7), BAD);
        due(29, "-1", x.merged(-1, 0), BAD);
        due(29, "no town", new GreyDays().merged(0, 1), BAD);
    }

    private static void testsCall() {
        GreyDays x = new GreyDays();
        due(30, "no town", x.tests(0, 0, 0, 0), STATE);
        due(30, "STATE ahead of BAD", x.tests(0, 21, 0, 0), STATE);
        tell(x, PLAIN);
        due(30, "no things", x.tests(0, 3, 4, 0), 0);
        due(30, "no things cost nothing", x.tests(0, 3, 4, 1), 0);
        tell(x, PLAIN + "i1,0;");
        due(30, "one is told by nothing", x.tests(0, 3, 4, 0), 1);
        due(30, "one costs nothing", x.tests(0, 3, 4, 1), 0);
        tell(x, PLAIN + "i1,0;i2,0;d3,1;");
        // 1 2 2, then 1 2 1 and 1 2 3; shapes 0 0 1.
        due(30, "by both", x.tests(0, 3, 4, 0), 3);
        due(30, "by both", x.tests(0, 3, 4, 1), 7);
        due(30, "by looks", x.tests(2, 3, 4, 0), 3);
        due(30, "by looks", x.tests(2, 3, 4, 1), 3);
        due(30, "for nothing", x.tests(2, 0, 0, 1), 0);
        tell(x, PLAIN + "i1,0;i1,1;");
        due(30, "by shapes", x.tests(0, 20, 20, 0), 2);
        due(30, "by shapes", x.tests(0, 20, 20, 1), 20);
        due(30, "by shapes, not both", x.tests(0, 0, 9, 1), 9);
        tell(x, PLAIN + "i1,0;i2,1;");
        due(30, "the one that costs least", x.tests(0, 9, 5, 1), 5);
        due(30, "the one that costs least", x.tests(0, 5, 9, 1), 5);
        tell(x, PLAIN + "i1,0;i1,0;");
        due(30, "never", x.tests(0, 5, 9, 0), 0);
        due(30, "never costs nothing", x.tests(0, 5, 9, 1), 0);
        due(30, "d", x.tests(101, 0, 0, 0), BAD);
        due(30, "d", x.tests(-1, 0, 0, 0), BAD);
        due(30, "looks", x.tests(0, 21, 0, 0), BAD);
        due(30, "looks", x.tests(0, -1, 0, 0), BAD);
        due(30, "shapes", x.tests(0, 0, 21, 0), BAD);
        due(30, "shapes", x.tests(0, 0, -1, 0), BAD);
        due(30, "what", x.tests(0, 0, 0, 2), BAD);
        due(30, "what", x.tests(0, 0, 0, -1), BAD);
    }

    private static void betCall() {
        GreyDays x = new GreyDays();
        long[][] told = {{0, 0, 1, 1}, {1, 0, 1, 1}, {1, 1, 1, 5}, {2, 1, 9, 25}, {2, 2, 1, 25}, {3, 1, 61, 125},
            {3, 2, 13, 125}, {4, 2, 113, 625}, {5, 4, 21, 3125}, {12, 12, 1, 244140625},
            {12, 11, 49, 244140625}, {12, 1, 244140625 - 16777216, 244140625}, {12, 0, 1, 1}};
        for (long[] one : told) {
            due(31, "bet(" + one[0] + ", " + one[1] + ", 0)", x.bet((int) one[0], (int) one[1], 0), one[2]);
            due(31, "bet(" + one[0] + ", " + one[1] + ", 1)", x.bet((int) one[0], (int) one[1], 1), one[3]);
        }
        // 5 of 5 less 4 to the 5th and 5 times 4 to the 4th: 3125 - 1024 - 1280 = 821.
        due(31, "5, 2", x.bet(5, 2, 0), 821);
        due(31, "n 13", x.bet(13, 1, 0), BAD);
        due(31, "n -1", x.bet(-1, 0, 0), BAD);
        due(31, "k -1", x.bet(3, -1, 0), BAD);
        due(31, "k 4", x.bet(3, 4, 0), BAD);
        due(31, "what 2", x.bet(3, 1, 2), BAD);
        due(31, "what -1", x.bet(3, 1, -1), BAD);
    }

    private static void yearCall() {
        GreyDays x = new GreyDays();
        due(32, "no town", x.year(1, 1, 0), STATE);
        due(32, "STATE ahead of BAD", x.year(-1, 1, 0), STATE);
        // Alike with 0 missing alone. SEED 1: 16807 (1), 282475249 (1), 1622650073 (5), 984943658 (2), 1144108930 (4),
        // 470211272 (2), 101027544 (0).
        tell(x, PLAIN + "d3,0;d2,0;m0,1,4;");
        due(32, "none", x.year(0, 1, 0), 0);
        due(32, "none", x.year(0, 1, 1), 0);
        due(32, "6", x.year(6, 1, 0), 0);
        due(32, "6", x.year(6, 1, 1), 6);
        due(32, "7", x.year(7, 1, 0), 4);
        due(32, "7", x.year(7, 1, 1), 6);
        x.days(1);
        due(32, "whatever the day", x.year(7, 1, 0), 4);
        tell(x, PLAIN + "d2,0;f0,0;m0,1,3;");
        due(32, "1 missing: the first two", x.year(7, 1, 0), 6);
        due(32, "without", x.year(7, 1, 1), 5);
        tell(x, PLAIN + "i2,0;i2,0;m0,1,20;");
        due(32, "200", x.year(200, 999999, 0), 4000);
        due(32, "200", x.year(200, 999999, 1), 0);
        due(32, "201", x.year(201, 1, 0), BAD);
        due(32, "-1", x.year(-1, 1, 0), BAD);
        due(32, "seed 0", x.year(1, 0, 0), BAD);
        due(32, "seed 1000000", x.year(1, 1000000, 0), BAD);
        due(32, "what 2", x.year(1, 1, 2), BAD);
        due(32, "what -1", x.year(1, 1, -1), BAD);
    }

    private static void imageAndRestore() {
        GreyDays x = new GreyDays();
        due(33, "no town", x.image(0), STATE);
        due(33, "BAD ahead of STATE", x.image(2), BAD);
        due(33, "-1", x.image(-1), BAD);
        due(34, "none kept", x.restore(0), STATE);
        due(34, "2", x.restore(2), BAD);
        due(34, "-1", x.restore(-1), BAD);
        tell(x, PLAIN + "d3,1;w6,2;m0,1,4;");
        x.paint(0, 5);
        x.days(3);
        due(33, "kept", x.image(0), 1);
        due(33, "acts stay", x.count(5), 4);
        x.miss(3, 0);
        x.paint(0, 9);
        x.days(1);
        due(33, "kept", x.image(1), 1);
        due(34, "none lost", x.restore(0), 1);
        due(34, "no acts", x.count(5), 0);
        due(34, "day", x.count(3), 3);
        due(34, "mix", x.thing(0, 0), 5);
        due(34, "shape", x.thing(0, 1), 1);
        due(34, "kind", x.kind(1), 2);
        due(34, "colour", x.missing(3), 3);
        due(34, "pair", x.pair(0, 1), 4);
        x.paint(0, 11);
        x.days(2);
        due(34, "once more", x.restore(0), 1);
        due(34, "the image is as it was", x.thing(0, 0), 5);
        due(34, "the image is as it was", x.count(3), 3);
        tell(x, PLAIN);
        due(34, "over a new town", x.restore(1), 1);
        due(34, "things", x.count(1), 2);
        due(34, "mix", x.thing(0, 0), 9);
        due(34, "colour", x.missing(3), 0);
        due(34, "day", x.count(3), 4);
        due(33, "kept anew", x.image(0), 1);
        x.paint(0, 1);
        x.restore(0);
        due(34, "anew", x.thing(0, 0), 9);
        due(34, "only images 0 and 1", x.restore(2), BAD);
    }

    private static void kindAndAs() {
        GreyDays x = townOf(PLAIN + "d1,0;w1,0;s1,0;i1,0;f1,0;");
        int[] isOf = {0b000011, 0b000111, 0b001011, 0b010001, 0b110001};
        for (int one = 0; one < 5; one++) {
            due(35, "kind(" + one + ")", x.kind(one), one + 1);
            for (int kind = 0; kind <= 5; kind++) {
                boolean is = (isOf[one] >> kind & 1) != 0;
                due(36, "as(" + one + ", " + kind + ")", x.as(one, kind), is ? one : KIND);
                due(40, "status of as(" + one + ", " + kind + ")", x.status(), is ? 0 : 3);
            }
        }
        due(35, "5", x.kind(5), BAD);
        due(35, "-1", x.kind(-1), BAD);
        due(35, "no town", new GreyDays().kind(0), BAD);
        due(36, "thing 5", x.as(5, 0), BAD);
        due(36, "thing -1", x.as(-1, 0), BAD);
        due(36, "kind 6", x.as(0, 6), BAD);
        due(36, "kind -1", x.as(0, -1), BAD);
        due(36, "no town", new GreyDays().as(0, 0), BAD);
    }

    private static void asked(GreyDays x, int one, int what, int answer, int... bodies) {
        due(37, "ask(" + one + ", " + what + ")", x.ask(one, what), answer);
        for (int i = 0; i < bodies.length; i++) {
            due(38, "trace(" + i + ") of ask(" + one + ", " + what + ")", x.trace(i), bodies[i]);
        }
        due(38, "end of ask(" + one + ", " + what + ")", x.trace(bodies.length), NONE);
    }

    private static void askAndTrace() {
        GreyDays x = townOf(PLAIN + "i9,0;d7,0;w7,0;s7,1;i7,0;f9,0;");
        // LOOKS with 0 missing: 9, 6, 4, 70, 7, 0.
        asked(x, 0, 0, -91, 13, 10);
        asked(x, 1, 0, 7 + 1 + 6, 11, 10, 21, 20);
        asked(x, 2, 0, -(7 + 2 * (2 + 4)), 12, 11, 10, 24, 21, 20);
        asked(x, 3, 0, 7 + 3 + 70 - 1000, 11, 10, 22, 21, 20);
        asked(x, 4, 0, -93, 13, 10);
        asked(x, 5, 0, -182, 14, 13, 10);
        asked(x, 1, 1, 7, 21, 20);
        asked(x, 2, 1, 12, 24, 21, 20);
        asked(x, 3, 1, 73 - 1000, 22, 21, 20);
        asked(x, 4, 1, 4 + 93, 23, 20, 13, 10);
        asked(x, 5, 1, 5 + 182, 23, 20, 14, 13, 10);
        due(37, "what 2", x.ask(0, 2), BAD);
        due(37, "what -1", x.ask(0, -1), BAD);
        due(37, "thing 6", x.ask(6, 0), BAD);
        due(37, "thing -1", x.ask(-1, 0), BAD);
        due(38, "the trace stays", x.trace(4), 10);
        due(38, "-1", x.trace(-1), NONE);
        due(38, "16", x.trace(16), NONE);
        due(38, "most", x.trace(MOST), NONE);
        due(38, "least", x.trace(LEAST), NONE);
        x.days(1);
        asked(x, 1, 1, 1 + 5, 21, 20);
        due(37, "no town", new GreyDays().ask(0, 0), BAD);
    }

    private static void countCall() {
        GreyDays x = seven();
        x.row(1, 0, 3);
        x.row(6, 0, 3);
        x.paint(0, 6);
        x.feed('c');
        int[] told = {2, 7, 4, 0, 5, 1, 1};
        for (int what = 0; what <= 6; what++) {
            due(39, "count(" + what + ")", x.count(what), told[what]);
        }
        x.days(1);
        due(39, "day", x.count(3), 1);
        due(39, "harm today: 4 and 4, twin 4", x.count(4), 5 + 3);
        due(39, "7", x.count(7), BAD);
        due(39, "-1", x.count(-1), BAD);
        due(39, "most", x.count(MOST), BAD);
    }

    private static void statusCall() {
        GreyDays x = new GreyDays();
        x.set(0, 0, 0);
        due(40, "NULL", x.status(), 1);
        x.set(8, 0, 0);
        due(40, "BAD leaves it", x.status(), 1);
        x.seen(0, 0);
        due(40, "STATE leaves it", x.status(), 1);
        x.feed('c');
        x.town();
        due(40, "other calls leave it", x.status(), 1);
        x.row(0, 0, 2);
        due(40, "none", x.status(), 0);
        x.set(0, 2, 0);
        due(40, "PLACE", x.status(), 2);
        x.set(0, 1, 0);
        due(40, "none", x.status(), 0);
        x.row(0, 0, -1);
        due(40, "SIZE", x.status(), 4);
        x.as(0, 0);
        due(40, "BAD leaves it", x.status(), 4);
        x.copy(0, 0, 0, 1, 1);
        due(40, "none", x.status(), 0);
        x.row(1, 1, 2);
        x.copy(0, 0, 1, 0, 0);
        due(40, "STORE", x.status(), 5);
        x.drop(1);
        due(40, "none", x.status(), 0);
        x.drop(1);
        due(40, "NULL", x.status(), 1);
        tell(x, PLAIN + "d1,0;");
        x.as(0, 1);
        due(40, "none", x.status(), 0);
        x.as(0, 2);
        due(40, "KIND", x.status(), 3);
        x.paint(0, 99);
        due(40, "KIND still", x.status(), 3);
        x.seen(0, 1);
        due(40, "none", x.status(), 0);
        x.seen(0, 2);
        due(40, "PLACE", x.status(), 2);
    }
}
