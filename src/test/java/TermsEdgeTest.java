/** Each sentence of the document's Terms that names a boundary case, with a test of its own; worked out by hand. */
public final class TermsEdgeTest {
    private static final int NONE = -1000000, BAD = -1000001, STATE = -1000002, FULL = -1000003;
    private static final int NULL = -1000011, PLACE = -1000012, KIND = -1000013, SIZE = -1000014, STORE = -1000015;
    private static final int LEAST = Integer.MIN_VALUE, MOST = Integer.MAX_VALUE;
    private static final int END = -1000100;
    private static final String PLAIN = "c0,1,2,3,4,5,0;", BRIGHT = "c5,5,5,5,5,5,5;";
    private static final String FIGURES = "0123456789", SORTS = "dwsif";
    private static final String SEVEN_THINGS = "d1,0;w2,0;s3,0;i4,0;f5,0;d6,0;d7,0;";
    private static final String EIGHT_PAIRS = "m0,1,1;m0,2,1;m0,3,1;m0,4,1;m0,5,1;m0,6,1;m1,2,1;m1,3,1;";

    private static String said = "";
    private static int wrong = 0;
    private static int asked = 0;
    private static int askedOfSentence = 0;
    private static int sentences = 0;

    private static void sentence(String words) {
        endSentence();
        said = words;
        sentences++;
        askedOfSentence = 0;
    }

    private static void endSentence() {
        if (sentences > 0 && askedOfSentence == 0) {
            wrong++;
            System.out.println("'" + said + "' has no test");
        }
    }

    private static void due(String call, long got, long want) {
        asked++;
        askedOfSentence++;
        if (got != want) {
            wrong++;
            System.out.println("'" + said + "': " + call + " answered " + got + ", due is " + want);
        }
    }

    private static void feed(GreyDays x, String text) {
        for (int i = 0; i < text.length(); i++) {
            x.feed(text.charAt(i));
        }
    }

    private static int tell(GreyDays x, String text) {
        feed(x, text);
        return x.town();
    }

    private static GreyDays townOf(String text) {
        GreyDays x = new GreyDays();
        int answer = tell(x, text);
        if (answer < 0) {
            wrong++;
            System.out.println("not a town: " + text + " answered " + answer);
        }
        return x;
    }

    private static void town(String text, int things) {
        GreyDays x = new GreyDays();
        due("town of " + text, tell(x, text), things);
        due("fault of " + text, x.fault(), 0);
    }

    private static void fault(String text, int number, int place) {
        GreyDays x = new GreyDays();
        due("town of " + text, tell(x, text), END - place);
        due("fault of " + text, x.fault(), number);
        due("no town by " + text, x.missing(0), STATE);
    }

    public static void main(String[] args) {
        lastCall();
        refusals();
        findings();
        rows();
        lanes();
        items();
        tape();
        everyByteOfLaw();
        everyByteOfThings();
        everyByteOfPairs();
        numbers();
        law();
        things();
        pairs();
        townInPlace();
        firstFault();
        faultsOfOne();
        faultsOfTwo();
        faultsOfThree();
        weekdays();
        looksOfKinds();
        alikeThings();
        acts();
        likeAndLooks();
        harm();
        clearAndWorst();
        paint();
        dyes();
        thief();
        seen();
        shelf();
        parted();
        merged();
        tests();
        bet();
        year();
        kinds();
        sizes();
        marks();
        nearestBody();
        trace();
        endSentence();
        System.out.println("TermsEdgeTest: " + sentences + " sentences, " + asked + " answers, " + wrong + " wrong");
        if (wrong != 0) {
            System.exit(1);
        }
    }

    // ---- what it is, refusals

    private static void lastCall() {
        sentence("An object is used for at most 512 calls after it has been made");
        GreyDays x = new GreyDays();
        for (int call = 1; call <= 120; call++) {
            due("call " + call, x.feed('c'), call);
        }
        for (int call = 121; call <= 511; call++) {
            due("call " + call, x.feed('c'), FULL);
        }
        due("call 512", x.count(6), 120);
        x = townOf(BRIGHT + "d1,0;");
        for (int call = 22; call <= 511; call++) {
            due("call " + call, x.paint(0, call % 32), call == 22 ? 1 : (call - 1) % 32);
        }
        due("call 512", x.undo(), 23);
    }

    private static void refusals() {
        sentence("NONE = -1000000, BAD = -1000001, STATE = -1000002, FULL = -1000003");
        due("NONE", GreyDays.NONE, NONE);
        due("BAD", GreyDays.BAD, BAD);
        due("STATE", GreyDays.STATE, STATE);
        due("FULL", GreyDays.FULL, FULL);
        sentence("Refusals are answers, the first of these that fits, but as told: BAD");
        GreyDays x = townOf(BRIGHT + "i1,0;");
        due("BAD ahead of STATE", x.paint(0, 32), BAD);
        due("STATE", x.paint(0, 31), STATE);
        due("BAD ahead of NULL", x.copy(0, 0, 8, 0, 0), BAD);
        due("BAD ahead of SIZE", x.row(0, 3, -1), BAD);
        due("BAD ahead of KIND", x.as(1, 1), BAD);
        due("BAD ahead of STATE", new GreyDays().image(2), BAD);
        due("BAD ahead of STATE", new GreyDays().restore(-1), BAD);
        for (int i = 0; i < 120; i++) {
            x.feed(0);
        }
        due("BAD ahead of FULL", x.feed(256), BAD);
        due("FULL", x.feed(255), FULL);
        for (int i = 0; i < 41; i++) {
            x.days(24);
        }
        due("BAD ahead of FULL", x.days(25), BAD);
        due("FULL", x.days(24), FULL);
    }

    private static void findings() {
        sentence("then FINDINGS, of several the first in time: -1000010 less 1 NULL (a ROW that is missing), "
            + "2 PLACE (no such place of a ROW), 3 KIND (a THING that is not that), 4 SIZE (fewer than none), "
            + "5 STORE (ROWS of two LANES)");
        GreyDays x = townOf(BRIGHT + "i1,0;");
        x.row(0, 0, 1);
        x.row(1, 1, 1);
        due("NULL", x.drop(2), NULL);
        due("1", x.status(), 1);
        due("PLACE", x.set(0, 1, 0), PLACE);
        due("2", x.status(), 2);
        due("KIND", x.as(0, 1), KIND);
        due("3", x.status(), 3);
        due("SIZE", x.row(0, 0, -1), SIZE);
        due("4", x.status(), 4);
        due("STORE", x.copy(0, 0, 1, 0, 1), STORE);
        due("5", x.status(), 5);
        due("NULL ahead of PLACE", x.set(2, -1, 0), NULL);
        due("NULL ahead of PLACE", x.seen(2, -1), NULL);
        due("NULL ahead of PLACE", x.copy(0, -1, 2, 0, 0), NULL);
        due("STORE ahead of PLACE", x.copy(0, 0, 1, 0, 9), STORE);
    }

    // ---- 1: ROWS, TEXTS, FAULTS

    private static void rows() {
        sentence("ROWS 0 .. 7 are missing (at first)");
        for (int row = 0; row <= 7; row++) {
            GreyDays x = townOf(BRIGHT);
            due("set of " + row, x.set(row, 0, 0), NULL);
            due("drop of " + row, x.drop(row), NULL);
            due("seen of " + row, x.seen(row, 0), NULL);
            due("copy of " + row, x.copy(row, 0, row, 0, 0), NULL);
            due("no row", x.count(0), 0);
            due("row " + row, x.row(row, 0, 1), 1);
            due("a row", x.count(0), 1);
            due("set of " + row, x.set(row, 0, 9), 9);
            due("copy of " + row, x.copy(row, 0, row, 0, 1), 1);
            due("seen of " + row, x.seen(row, 0), 127);
            due("copy to one missing", x.copy(row, 0, (row + 1) % 8, 0, 1), NULL);
            due("copy of one missing", x.copy((row + 1) % 8, 0, row, 0, 1), NULL);
            due("drop of " + row, x.drop(row), 1);
            due("missing again", x.drop(row), NULL);
        }
        for (int row : new int[] {LEAST, -1, 8, MOST}) {
            GreyDays x = townOf(BRIGHT);
            x.row(0, 0, 1);
            due("row " + row, x.row(row, 0, 1), BAD);
            due("set of " + row, x.set(row, 0, 0), BAD);
            due("drop of " + row, x.drop(row), BAD);
            due("seen of " + row, x.seen(row, 0), BAD);
            due("copy of " + row, x.copy(row, 0, 0, 0, 0), BAD);
            due("copy to " + row, x.copy(0, 0, row, 0, 0), BAD);
        }
        GreyDays x = new GreyDays();
        for (int row = 0; row <= 7; row++) {
            x.row(row, row % 3, 1 + row);
            due("rows", x.count(0), row + 1);
        }
        for (int row = 0; row <= 7; row++) {
            due("apart from one another", x.drop(row), 1 + row);
            due("rows left", x.count(0), 7 - row);
        }
    }

    private static void lanes() {
        sentence("or have a LANE (0 bytes, 1 shorts, 2 ints)");
        int[][] told = {
            {0, 127, 127}, {0, 128, -128}, {0, 255, -1}, {0, 256, 0}, {0, 257, 1}, {0, -1, -1}, {0, -128, -128},
            {0, -129, 127}, {0, -256, 0}, {0, 32768, 0}, {0, 65535, -1}, {0, MOST, -1}, {0, LEAST, 0},
            {1, 128, 128}, {1, 255, 255}, {1, 32767, 32767}, {1, 32768, -32768}, {1, 65535, -1}, {1, 65536, 0},
            {1, 65537, 1}, {1, -1, -1}, {1, -32768, -32768}, {1, -32769, 32767}, {1, MOST, -1}, {1, LEAST, 0},
            {2, 128, 128}, {2, 32768, 32768}, {2, 65536, 65536}, {2, -32769, -32769}, {2, MOST, MOST},
            {2, LEAST, LEAST}, {2, BAD, BAD}, {2, NULL, NULL}};
        for (int[] one : told) {
            GreyDays x = new GreyDays();
            x.row(3, one[0], 1);
            due("lane " + one[0] + ", set " + one[1], x.set(3, 0, one[1]), one[2]);
            due("no finding", x.status(), 0);
        }
        for (int lane : new int[] {LEAST, -1, 3, MOST}) {
            GreyDays x = new GreyDays();
            due("lane " + lane, x.row(0, lane, 1), BAD);
            due("no row", x.count(0), 0);
        }
    }

    private static void items() {
        sentence("and 0 to 40 ITEMS, 0 at first");
        for (int lane = 0; lane <= 2; lane++) {
            GreyDays x = townOf(BRIGHT + "f1,0;f2,0;f3,0;f4,0;f5,0;f6,0;f7,0;");
            due("none", x.row(0, lane, 0), 0);
            due("it is there", x.count(0), 1);
            due("no place", x.set(0, 0, 0), PLACE);
            due("none", x.drop(0), 0);
            due("40", x.row(0, lane, 40), 40);
            due("41", x.row(0, lane, 41), BAD);
            due("most", x.row(0, lane, MOST), BAD);
            due("fewer than none", x.row(0, lane, -1), SIZE);
            due("fewer than none", x.row(0, lane, LEAST), SIZE);
            for (int i = 0; i <= 33; i++) {
                due("0 from " + i, x.seen(0, i), 127);
            }
            due("beyond the end", x.seen(0, 34), PLACE);
            for (int i = 0; i < 40; i++) {
                x.set(0, i, 9);
            }
            due("the last place", x.set(0, 39, 8), 8);
            due("beyond it", x.set(0, 40, 8), PLACE);
            due("not 0", x.seen(0, 33), 0);
            due("anew", x.row(0, lane, 40), 40);
            due("0 at first", x.seen(0, 0), 127);
            due("0 at first", x.seen(0, 33), 127);
            x.set(0, 39, 9);
            x.drop(0);
            x.row(0, lane, 40);
            due("0 behind a drop", x.seen(0, 33), 127);
            x.set(0, 39, 9);
            x.row(0, lane, 39);
            x.row(0, lane, 40);
            due("0 behind a shorter one", x.seen(0, 33), 127);
        }
    }

    private static void tape() {
        sentence("THE TAPE has at most 120 bytes, that come one by one");
        String text = "c00,01,02,03,04,05,00;d10,0;d10,0;d10,0;d10,0;d10,0;d10,0;d10,0;" + EIGHT_PAIRS;
        due("its bytes", text.length(), 120);
        GreyDays x = new GreyDays();
        for (int i = 0; i < 120; i++) {
            due("byte " + i, x.feed(text.charAt(i)), i + 1);
            due("bytes", x.count(6), i + 1);
        }
        due("one more", x.feed(';'), FULL);
        due("still", x.count(6), 120);
        due("read whole", x.town(), 7);
        due("the last pair", x.pair(1, 3), 1);
        due("empty", x.count(6), 0);
        due("the next one", x.feed('c'), 1);
        fault(text.substring(0, 119), 1, 119);
        fault(text.substring(0, 119) + ",", 1, 119);
        fault(text.substring(0, 119) + "0", 1, 120);
        // What an earlier, longer text left behind is not on the tape.
        x = townOf(text);
        due("the end behind c0", tell(x, "c0"), END - 2);
        due("the end behind c", tell(x, "c"), END - 1);
        due("the end behind a law", tell(x, "c00,01,02,03,04,05,00;"), 0);
        due("the end behind a thing", tell(x, text.substring(0, 28)), 1);
        due("the end behind a pair", tell(x, text.substring(0, 71)), 7);
        due("one pair", x.count(2), 1);
    }

    /** Every byte behind a text that is right so far; a wrong one is a FAULT of its own, or of the NUMBER it ends. */
    private static void everyByte(String text, String fine, String untold, String third, int numberPlace) {
        for (int letter = 0; letter <= 255; letter++) {
            String whole = text + (char) letter;
            if (fine.indexOf(letter) >= 0) {
                fault(whole, 1, whole.length());
            } else if (untold.indexOf(letter) >= 0) {
                fault(whole, 2, numberPlace);
            } else if (third.indexOf(letter) >= 0) {
                fault(whole, 1, numberPlace);
            } else if (letter != ';' || !endsByMark(text)) {
                fault(whole, 1, text.length());
            }
        }
    }

    /** A NUMBER that a ; ends, so that a whole TOWN stands there: told by the tests of law, things and pairs. */
    private static boolean endsByMark(String text) {
        return text.matches("c([0-9]+,){6}[0-9]+|c.*;[dwsif][0-9]+,[0-9]+|c.*;m[0-9]+,[0-9]+,[0-9]+");
    }

    private static void everyByteOfLaw() {
        sentence("TOKENS: letters a to z (each by itself), NUMBERS (figures, 2 at most), SIGNS , and ; nothing else");
        everyByte("", "c", "", "", 0);
        everyByte("c", "012345", "6789", "", 1);
        everyByte("c0", ",012345", "6789", "", 1);
        everyByte("c1", ",", FIGURES, "", 1);
        everyByte("c5", ",", FIGURES, "", 1);
        everyByte("c00", ",", "", FIGURES, 1);
        everyByte("c05", ",", "", FIGURES, 1);
        everyByte("c0,", "012345", "6789", "", 3);
        everyByte("c0,0,0,0,0,0", ",012345", "6789", "", 11);
        everyByte("c0,0,0,0,0,0,", "012345", "6789", "", 13);
        everyByte("c0,0,0,0,0,0,0", "012345", "6789", "", 13);
        everyByte("c0,0,0,0,0,0,00", "", "", FIGURES, 13);
        sentence("town: law { thing } { pair }");
        everyByte(PLAIN, "dwsifm", "", "", 15);
        for (char sort : SORTS.toCharArray()) {
            everyByte(PLAIN + sort + "1,0;", "dwsifm", "", "", 20);
        }
        everyByte(PLAIN + "d1,0;d2,0;m0,1,1;", "m", "", "", 32);
        town(PLAIN, 0);
        town(PLAIN + "d1,0;", 1);
        town(PLAIN + "d1,0;d2,0;m0,1,1;", 2);
        fault("", 1, 0);
        fault("d1,0;" + PLAIN, 1, 0);
        fault(PLAIN + PLAIN, 1, 15);
        fault(PLAIN + "d1,0;d2,0;m0,1,1;" + PLAIN, 1, 32);
    }

    private static void everyByteOfThings() {
        sentence("thing: SORT MIX , SHAPE ; (SORT: d a dyed one, w a twin, s a shining one, i one of ink, "
            + "f a faded one; MIX: COLOURS 0 to 4 as bits, 0 to 31; 0 to 3;");
        for (char sort : SORTS.toCharArray()) {
            everyByte(PLAIN + sort, FIGURES, "", "", 16);
            everyByte(PLAIN + sort + "0", "," + FIGURES, "", "", 16);
            everyByte(PLAIN + sort + "2", "," + FIGURES, "", "", 16);
            everyByte(PLAIN + sort + "3", ",01", "23456789", "", 16);
            everyByte(PLAIN + sort + "4", ",", FIGURES, "", 16);
            everyByte(PLAIN + sort + "31", ",", "", FIGURES, 16);
            everyByte(PLAIN + sort + "3,", "0123", "456789", "", 18);
            everyByte(PLAIN + sort + "3,0", "0123", "456789", "", 18);
            everyByte(PLAIN + sort + "3,1", "", FIGURES, "", 18);
            everyByte(PLAIN + sort + "3,03", "", "", FIGURES, 18);
        }
    }

    private static void everyByteOfPairs() {
        sentence("pair: m A , B , HARM ;");
        String two = PLAIN + "d3,0;d2,0;";
        everyByte(two + "m", "01", "23456789", "", 26);
        everyByte(two + "m0", ",01", "23456789", "", 26);
        everyByte(two + "m1", ",", FIGURES, "", 26);
        everyByte(two + "m01", ",", "", FIGURES, 26);
        everyByte(two + "m0,", "1", "023456789", "", 28);
        everyByte(two + "m1,", "0", "123456789", "", 28);
        everyByte(two + "m0,1", ",", FIGURES, "", 28);
        everyByte(two + "m1,0", ",0", "123456789", "", 28);
        everyByte(two + "m0,01", ",", "", FIGURES, 28);
        everyByte(two + "m0,1,", "123456789", "0", "", 30);
        everyByte(two + "m0,1,1", FIGURES, "", "", 30);
        everyByte(two + "m0,1,2", "0", "123456789", "", 30);
        everyByte(two + "m0,1,3", "", FIGURES, "", 30);
        everyByte(two + "m0,1,20", "", "", FIGURES, 30);
    }

    private static void numbers() {
        sentence("NUMBERS (figures, 2 at most)");
        GreyDays x = townOf("c00,01,02,03,04,05,00;d08,00;w09,01;i31,02;s00,03;m00,01,01;m02,01,09;m3,00,20;");
        due("08 is 8", x.thing(0, 0), 8);
        due("09 is 9", x.thing(1, 0), 9);
        due("31", x.thing(2, 0), 31);
        due("00", x.thing(3, 0), 0);
        due("00", x.thing(0, 1), 0);
        due("03", x.thing(3, 1), 3);
        due("01", x.pair(0, 1), 1);
        due("09", x.pair(1, 2), 9);
        due("20", x.pair(0, 3), 20);
        due("05", x.missing(5), 5);
        fault(PLAIN + "d008,0;", 1, 16);
        fault(PLAIN + "d0000000000000000000000000000000000000000000000,0;", 1, 16);
        fault(PLAIN + "d4294967297,0;", 1, 16);
    }

    private static void law() {
        sentence("law: c and seven NUMBERS parted by , then ; "
            + "(0 to 5: the COLOUR missing on WEEKDAYS 0 to 6; 5: none is)");
        for (int weekday = 0; weekday <= 6; weekday++) {
            for (int colour = 0; colour <= 99; colour++) {
                StringBuilder text = new StringBuilder("c");
                for (int i = 0; i < 7; i++) {
                    text.append(i == weekday ? colour : 5 - 5 * (i % 2)).append(i < 6 ? ',' : ';');
                }
                text.append("d31,0;");
                if (colour > 5) {
                    fault(text.toString(), 2, 1 + 2 * weekday);
                    continue;
                }
                GreyDays x = townOf(text.toString());
                due("missing on " + weekday, x.missing(weekday), colour);
                if (weekday > 0) {
                    due("ahead of it", x.missing(weekday - 1), 5 - 5 * ((weekday - 1) % 2));
                    x.days(weekday);
                }
                due("31 without " + colour, x.thing(0, 2), colour == 5 ? 31 : 31 - (1 << colour));
            }
        }
        fault("c0,0,0,0,0,0;", 1, 12);
        fault("c0,0,0,0,0,0,0,0;", 1, 14);
        fault("c;", 1, 1);
    }

    private static void things() {
        sentence("MIX: COLOURS 0 to 4 as bits, 0 to 31; 0 to 3; THINGS 0 .. 6, 7 at most)");
        for (int k = 0; k < 5; k++) {
            char sort = SORTS.charAt(k);
            for (int mix = 0; mix <= 99; mix++) {
                String text = PLAIN + sort + mix + ",3;";
                if (mix > 31) {
                    fault(text, 2, 16);
                    continue;
                }
                GreyDays x = townOf(text);
                due("mix of " + text, x.thing(0, 0), mix);
                due("kind of " + text, x.kind(0), k + 1);
            }
            for (int shape = 0; shape <= 99; shape++) {
                String text = PLAIN + sort + "31," + shape + ";";
                if (shape > 3) {
                    fault(text, 2, 19);
                    continue;
                }
                due("shape of " + text, townOf(text).thing(0, 1), shape);
            }
        }
        StringBuilder text = new StringBuilder(PLAIN);
        for (int n = 0; n <= 7; n++) {
            GreyDays x = townOf(text.toString());
            due("things", x.count(1), n);
            due("the one behind the last", x.kind(n), BAD);
            due("the last", x.thing(n - 1, 0), n == 0 ? BAD : n);
            due("the first", x.thing(0, 0), n == 0 ? BAD : 1);
            text.append("d").append(n + 1).append(",0;");
        }
        fault(text.toString(), 3, 50);
    }

    private static void pairs() {
        sentence("(THINGS told, unlike, no two pairs of the same; 1 to 20; 8 at most)");
        for (int n = 0; n <= 7; n++) {
            String some = PLAIN + SEVEN_THINGS.substring(0, 5 * n);
            for (int a = 0; a <= 9; a++) {
                String text = some + "m" + a + ",";
                fault(text, a < n ? 1 : 2, some.length() + (a < n ? 3 : 1));
                for (int b = 0; a < n && b <= 9; b++) {
                    String both = some + "m" + a + "," + b + ",1;";
                    if (b < n && b != a) {
                        town(both, n);
                    } else {
                        fault(both, 2, some.length() + 3);
                    }
                }
            }
        }
        String two = PLAIN + "d1,0;d2,0;";
        for (int harm = 0; harm <= 99; harm++) {
            String text = two + "m1,0," + harm + ";";
            if (harm < 1 || harm > 20) {
                fault(text, 2, 30);
            } else {
                due("harm of " + text, townOf(text).pair(0, 1), harm);
            }
        }
        String three = PLAIN + "d1,0;d2,0;d3,0;";
        fault(three + "m0,1,1;m0,1,1;", 2, 40);
        fault(three + "m0,1,1;m1,0,2;", 2, 40);
        fault(three + "m1,2,1;m0,1,1;m2,1,2;", 2, 47);
        town(three + "m0,1,1;m1,2,1;m2,0,1;", 3);
        String many = PLAIN + SEVEN_THINGS;
        for (int n = 0; n <= 8; n++) {
            due("pairs", townOf(many + EIGHT_PAIRS.substring(0, 7 * n)).count(2), n);
        }
        fault(many + EIGHT_PAIRS + "m2,3,1;", 3, 106);
        GreyDays x = townOf(many + "m0,1,1;m2,0,2;m0,3,3;m4,0,4;m0,5,5;m6,0,6;m1,2,7;m6,5,8;");
        int[] sums = {21, 8, 9, 3, 4, 13, 14};
        for (int i = 0; i < 7; i++) {
            due("harm of all pairs of " + i, x.thing(i, 3), sums[i]);
            due("harm of 0 and " + i, x.pair(0, i), i == 0 ? BAD : i);
            due("harm of 6 and " + i, x.pair(i, 6), i == 6 ? BAD : i == 0 ? 6 : i == 5 ? 8 : 0);
        }
        due("the seventh", x.pair(2, 1), 7);
        due("none", x.pair(3, 4), 0);
    }

    private static void townInPlace() {
        sentence("A TOWN that is read stands in place of the one before (none at first): DAY 0; no ACT can be undone");
        GreyDays x = new GreyDays();
        due("none at first", x.missing(0), STATE);
        due("none at first", x.count(1), 0);
        tell(x, PLAIN + "d1,1;d2,0;m0,1,7;");
        x.days(3);
        x.paint(0, 9);
        x.miss(0, 4);
        due("three days", x.count(3), 3);
        due("five acts", x.count(5), 5);
        due("the next", tell(x, BRIGHT + "s5,2;"), 1);
        due("day 0", x.count(3), 0);
        due("no act", x.count(5), 0);
        due("none to undo", x.undo(), STATE);
        due("its week", x.missing(0), 5);
        due("its thing", x.thing(0, 0), 5);
        due("its shape", x.thing(0, 1), 2);
        due("its kind", x.kind(0), 3);
        due("no second", x.kind(1), BAD);
        due("no pair", x.count(2), 0);
        due("no harm", x.thing(0, 3), 0);
        due("an empty one", tell(x, BRIGHT), 0);
        due("no thing", x.kind(0), BAD);
        // Behind one of seven THINGS one of two: nothing of the five others is left.
        tell(x, PLAIN + "f0,0;f0,1;f0,2;f0,3;f0,0;f0,1;f0,2;m0,1,20;m5,6,20;");
        due("seven", x.like(6, 0), 127);
        due("seven", x.shelf(0, -1), 0);
        due("seven", x.thief(1), 6);
        tell(x, BRIGHT + "i1,0;i2,0;");
        due("two", x.like(1, 0), 2);
        due("two", x.shelf(0, -1), 2);
        due("two", x.shelf(0, 1), 1);
        due("two", x.shelf(0, 2), NONE);
        due("two", x.thief(1), 0);
        due("two", x.looks(0), 2);
        due("two", x.tests(0, 1, 1, 0), 2);
        due("two", x.parted(0, 1, 0), 0);
        due("two", x.harms(100), 0);
        due("two", x.week(0), 127);
        due("two", x.year(200, 1, 0), 0);
        due("two", x.thing(0, 3), 0);
    }

    private static void firstFault() {
        sentence("FAULTS, the first TOKEN that has one (its first byte), of one TOKEN the least");
        fault("c6,0,0,0,0,0,9;", 2, 1);
        fault("c0,0,0,0,0,0,9;x", 2, 13);
        fault("c0,0,0,0,0,0,0;d99,9;", 2, 16);
        fault("c0,0,0,0,0,0,0;d9,9;m9,9,99;", 2, 18);
        fault(PLAIN + "d1,0;d2,0;m2,2,0;", 2, 26);
        fault(PLAIN + "d1,0;d2,0;m0,0,0;", 2, 28);
        fault(PLAIN + "d1,0;d2,0;m0,1,0,", 2, 30);
        fault(PLAIN + "d1,0;d2,0;m0,0;", 2, 28);
        fault(PLAIN + "d12;99;", 1, 18);
        fault(PLAIN + "99", 1, 15);
        fault(PLAIN + "d999,0;", 1, 16);
        fault(PLAIN + SEVEN_THINGS + "m0,1,1;d1,0;", 1, 57);
        fault(PLAIN + SEVEN_THINGS + EIGHT_PAIRS + "d1,0;", 1, 106);
        fault(PLAIN + SEVEN_THINGS + "d99,9;", 3, 50);
        fault(PLAIN + SEVEN_THINGS + EIGHT_PAIRS + "m9,9,9;", 3, 106);
    }

    private static void faultsOfOne() {
        sentence("1 it cannot stand there, or is none (a run of three figures, at its first; "
            + "the end: how many bytes there are)");
        String good = PLAIN + "w31,3;f2,0;m1,0,20;";
        for (int n = 0; n < good.length(); n++) {
            String text = good.substring(0, n);
            // Cut behind the law, or behind a thing, it is a TOWN.
            if (n == 15 || n == 21 || n == 26) {
                town(text, n == 15 ? 0 : n == 21 ? 1 : 2);
            } else {
                fault(text, 1, n);
            }
        }
        town(good, 2);
        fault("c000", 1, 1);
        fault("c0,000,0,0,0,0,0;", 1, 3);
        fault("c0,0000", 1, 3);
        fault(PLAIN + "d031,0;", 1, 16);
        fault(PLAIN + "d3,000;", 1, 18);
        fault(PLAIN + "d3,0;d3,0;m000,1,1;", 1, 26);
        fault(PLAIN + "d3,0;d3,0;m0,001,1;", 1, 28);
        fault(PLAIN + "d3,0;d3,0;m0,1,001;", 1, 30);
        fault(PLAIN + "123", 1, 15);
    }

    private static void faultsOfTwo() {
        sentence("2 a NUMBER that is not as told");
        fault("c6", 2, 1);
        fault("c99", 2, 1);
        fault("c0,0,0,0,0,0,6;", 2, 13);
        fault(PLAIN + "d32", 2, 16);
        fault(PLAIN + "d31,4", 2, 19);
        fault(PLAIN + "m0", 2, 16);
        fault(PLAIN + "d1,0;m0,0,1;", 2, 23);
        fault(PLAIN + "d1,0;m1,0,1;", 2, 21);
        fault(PLAIN + "d1,0;d2,0;m0,1,0;", 2, 30);
        fault(PLAIN + "d1,0;d2,0;m0,1,00;", 2, 30);
        fault(PLAIN + "d1,0;d2,0;m0,1,21;", 2, 30);
        fault(PLAIN + "d1,0;d2,0;m00,00,1;", 2, 29);
    }

    private static void faultsOfThree() {
        sentence("3 a thing, a pair more than there is room for (its letter)");
        for (char sort : SORTS.toCharArray()) {
            fault(PLAIN + SEVEN_THINGS + sort, 3, 50);
            fault(PLAIN + SEVEN_THINGS + sort + "1,0;", 3, 50);
            town(PLAIN + SEVEN_THINGS.substring(5) + sort + "1,0;", 7);
        }
        fault(PLAIN + SEVEN_THINGS + EIGHT_PAIRS + "m", 3, 106);
        fault(PLAIN + SEVEN_THINGS + EIGHT_PAIRS + "m0,1,1;", 3, 106);
        town(PLAIN + SEVEN_THINGS + EIGHT_PAIRS.substring(7) + "m6,5,1;", 7);
        fault(PLAIN + SEVEN_THINGS + "x", 1, 50);
        fault(PLAIN + SEVEN_THINGS + "c", 1, 50);
        fault(PLAIN + SEVEN_THINGS + EIGHT_PAIRS + "x", 1, 106);
    }

    // ---- 2: WEEKDAY, LOOK, ACTS

    private static void weekdays() {
        sentence("WEEKDAY of a DAY: what 7 leaves of it");
        // 31 with 0, 1, 2, 3, 4, nothing, 0 missing.
        int[] looks = {30, 29, 27, 23, 15, 31, 30};
        GreyDays x = townOf(PLAIN + "d31,0;i30,0;m0,1,3;");
        for (int day = 0; day <= 21; day++) {
            due("look on day " + day, x.thing(0, 2), looks[day % 7]);
            due("harm on day " + day, x.count(4), looks[day % 7] == 30 ? 3 : 0);
            x.days(1);
        }
        for (int d = 0; d <= 100; d++) {
            due("harm from day 22 in " + d, x.harm(d), looks[(22 + d) % 7] == 30 ? 3 : 0);
        }
        for (int i = 0; i < 40; i++) {
            x.days(24);
        }
        x.days(17);
        due("day 999", x.count(3), 999);
        // 999 is 142 weeks and 5.
        due("look on day 999", x.thing(0, 2), 31);
        due("day 1000", x.alike(0, 1, 1), 1);
        due("day 1001", x.alike(0, 1, 2), 1);
        due("day 1002", x.alike(0, 1, 3), 0);
        due("day 1099, 157 weeks", x.alike(0, 1, 100), 1);
    }

    private static int lookOf(char sort, int mix, int shape, int set) {
        int[] left = new int[5];
        int count = 0;
        for (int colour = 0; colour < 5; colour++) {
            if (mix / (1 << colour) % 2 == 1 && set / (1 << colour) % 2 == 0) {
                left[count++] = 1 << colour;
            }
        }
        int sum = 0;
        for (int i = sort == 'w' && count >= 2 ? 1 : 0; i < count; i++) {
            sum += left[i];
        }
        return sort == 'i' ? mix : sort == 'f' ? 0 : sort == 's' ? sum + 32 * (1 + shape) : sum;
    }

    private static void looksOfKinds() {
        sentence("of a dyed one its MIX without these; of a twin so, too, but without its least COLOUR that is left, "
            + "if there are two or more; of a shining one its MIX without these, and 32 times 1 and its SHAPE more; "
            + "of one of ink its MIX whole; of a faded one 0");
        for (int mix = 0; mix <= 31; mix++) {
            for (int k = 0; k < 5; k++) {
                char sort = SORTS.charAt(k);
                GreyDays x = townOf(BRIGHT + sort + mix + ",0;" + sort + mix + ",3;");
                for (int set = 0; set <= 31; set++) {
                    due(sort + " " + mix + " without " + set, x.look(0, set), lookOf(sort, mix, 0, set));
                    due(sort + " " + mix + ", 3 without " + set, x.look(1, set), lookOf(sort, mix, 3, set));
                }
            }
        }
        GreyDays x = townOf(BRIGHT + "w0,0;w16,0;w17,0;w25,0;s0,0;s31,3;s31,0;");
        due("a twin of none", x.look(0, 0), 0);
        due("a twin of one", x.look(1, 0), 16);
        due("its one is missing", x.look(1, 16), 0);
        due("a twin of two", x.look(2, 0), 16);
        due("its least is missing", x.look(2, 1), 16);
        due("its other is missing", x.look(2, 16), 1);
        due("a twin of three", x.look(3, 0), 24);
        due("three, the least is missing", x.look(3, 1), 16);
        due("three, the next is missing", x.look(3, 8), 16);
        due("three, the last is missing", x.look(3, 16), 8);
        due("the least that shines", x.look(4, 31), 32);
        due("the most that shines", x.look(5, 0), 159);
        due("shape 0", x.look(6, 0), 63);
    }

    private static void alikeThings() {
        sentence("Two THINGS are ALIKE, if their LOOKS are");
        // LOOKS with 0 missing: 2, 2, 2, 34, 2, 0, 0.
        GreyDays x = townOf("c0,5,5,5,5,5,5;d3,0;d2,1;w3,2;s3,0;i2,0;f2,0;d1,0;");
        int[] today = {2, 2, 2, 34, 2, 0, 0};
        int[] other = {3, 2, 2, 35, 2, 0, 1};
        for (int a = 0; a < 7; a++) {
            for (int b = 0; b < 7; b++) {
                due("alike " + a + ", " + b, x.alike(a, b, 0), a == b ? BAD : today[a] == today[b] ? 1 : 0);
                due("alike then " + a + ", " + b, x.alike(a, b, 1), a == b ? BAD : other[a] == other[b] ? 1 : 0);
            }
        }
    }

    private static void acts() {
        sentence("ACTS (24 at most are kept, of more the oldest is forgotten; each can be undone, the latest first)");
        for (int sort = 0; sort < 3; sort++) {
            for (int more = 22; more <= 25; more++) {
                GreyDays x = townOf(PLAIN + "d7,0;d8,0;");
                oldestAct(x, sort);
                for (int i = 0; i < more; i++) {
                    x.paint(1, i);
                }
                int kept = Math.min(24, more + 1);
                due("kept of " + (more + 1), x.count(5), kept);
                for (int left = kept - 1; left >= 1; left--) {
                    due("undo", x.undo(), left);
                }
                due("the last undo", x.undo(), 0);
                due("no more", x.undo(), STATE);
                boolean isForgotten = more >= 24;
                due("a day", x.count(3), sort == 0 && isForgotten ? 1 : 0);
                due("a paint", x.thing(0, 0), sort == 1 && isForgotten ? 9 : 7);
                due("a week", x.missing(6), sort == 2 && isForgotten ? 3 : 0);
                due("the paint that was undone", x.thing(1, 0), more == 25 ? 0 : 8);
            }
        }
        GreyDays x = townOf(PLAIN + "d7,0;");
        x.paint(0, 1);
        x.miss(0, 2);
        x.days(1);
        x.miss(0, 3);
        x.paint(0, 4);
        due("the latest first: paint", x.undo(), 4);
        due("mix", x.thing(0, 0), 1);
        due("colour still", x.missing(0), 3);
        due("then the week", x.undo(), 3);
        due("colour", x.missing(0), 2);
        due("day still", x.count(3), 1);
        due("then the day", x.undo(), 2);
        due("day", x.count(3), 0);
        due("then the week", x.undo(), 1);
        due("colour", x.missing(0), 0);
        due("then paint", x.undo(), 0);
        due("mix", x.thing(0, 0), 7);
        sentence("a DAY goes by; a THING is painted (MIX, but not one of ink); on a WEEKDAY another COLOUR is missing");
        x = townOf(PLAIN + "d7,0;w7,0;s7,0;i7,0;f7,0;");
        x.days(2);
        due("an act for a day", x.count(5), 2);
        for (int i = 0; i < 5; i++) {
            due("paint " + i, x.paint(i, 5), i < 3 ? 7 : STATE);
            due("mix " + i, x.thing(i, 0), i < 3 ? 5 : 7);
        }
        due("three more", x.count(5), 5);
        x.miss(0, 5);
        due("one more", x.count(5), 6);
    }

    private static void oldestAct(GreyDays x, int sort) {
        if (sort == 0) {
            x.days(1);
        } else if (sort == 1) {
            x.paint(0, 9);
        } else {
            x.miss(6, 3);
        }
    }

    // ---- 3: FORETOLD, KINDS

    private static void likeAndLooks() {
        sentence("LIKE: THINGS (bits) ALIKE with one then (itself, too)");
        GreyDays x = townOf(BRIGHT + "i1,0;i2,0;i3,0;i4,0;i5,0;i6,0;i7,0;");
        for (int i = 0; i < 7; i++) {
            due("itself alone", x.like(i, 0), 1 << i);
        }
        due("all unlike", x.looks(0), 7);
        x = townOf(BRIGHT + "f1,0;i0,0;d0,0;w0,0;f2,1;i0,3;f31,0;");
        for (int i = 0; i < 7; i++) {
            due("with all", x.like(i, 100), 127);
        }
        due("one alone", townOf(BRIGHT + "s1,0;").like(0, 0), 1);
        sentence("LOOKS: how many unlike ones all THINGS have");
        due("all alike", x.looks(0), 1);
        due("none", townOf(BRIGHT).looks(0), 0);
        due("one", townOf(BRIGHT + "f0,0;").looks(0), 1);
        due("the same one three times, another twice", townOf(BRIGHT + "i1,0;i2,0;i1,0;i2,0;i1,0;").looks(0), 2);
        sentence("By a DAY so many from now on (0: today)");
        x = townOf("c0,1,5,5,5,5,5;d3,0;i2,0;i1,0;");
        due("today", x.like(0, 0), 3);
        due("tomorrow", x.like(0, 1), 5);
        due("then", x.like(0, 2), 1);
        x.days(1);
        due("a day on: today", x.like(0, 0), 5);
        due("a day on: in six", x.like(0, 6), 3);
        due("a day on: in seven", x.like(0, 7), 5);
    }

    private static void harm() {
        sentence("HARM: of all pairs that are ALIKE, added; of n DAYS from today on (1 to 100), added");
        String text = BRIGHT + "f0,0;f0,0;f0,0;f0,0;f0,0;m0,1,20;m0,2,20;m0,3,20;m0,4,20;m1,2,20;m1,3,20;m1,4,20;m2,3,20;";
        GreyDays x = townOf(text);
        due("eight pairs", x.harm(0), 160);
        due("a day", x.harms(1), 160);
        due("100 days", x.harms(100), 16000);
        due("0 days", x.harms(0), BAD);
        due("101 days", x.harms(101), BAD);
        x = townOf("c5,0,5,5,5,5,5;d3,0;i2,0;i1,0;m0,1,3;m1,2,20;");
        due("not alike", x.harm(0), 0);
        due("one of two", x.harm(1), 3);
        due("today alone", x.harms(1), 0);
        due("with tomorrow", x.harms(2), 3);
        due("eight days", x.harms(8), 3);
        due("nine days", x.harms(9), 6);
        // WEEKDAY 1 is 15 times in 100 DAYS: on days 1, 8 .. 99.
        due("99 days", x.harms(99), 42);
        due("100 days", x.harms(100), 45);
        due("no pairs", townOf(BRIGHT + "f0,0;f0,0;").harm(0), 0);
    }

    private static void clearAndWorst() {
        sentence("CLEAR: of the next 7 DAYS (bits, today first) those without HARM");
        GreyDays x = townOf("c0,5,5,5,5,5,5;d3,0;d2,0;m0,1,1;");
        for (int day = 0; day <= 7; day++) {
            due("clear on day " + day, x.week(0), 127 - (1 << (7 - day) % 7));
            due("worst on day " + day, x.week(1), (7 - day) % 7);
            x.days(1);
        }
        due("never", townOf(BRIGHT + "f0,0;f0,0;m0,1,1;").week(0), 0);
        due("always", townOf(BRIGHT + "f0,0;f0,0;").week(0), 127);
        sentence("WORST: the one of these with most HARM, of several the first");
        // 2 with 0 missing, 3 with 1 missing: 0 2 3 2 3 0 0.
        x = townOf("c5,0,1,0,1,5,5;d3,0;d2,0;d1,0;m0,1,2;m0,2,3;");
        due("the first of two", x.week(1), 2);
        x.days(3);
        due("2 3 0 0 0 2 3", x.week(1), 1);
        x.days(2);
        due("0 0 0 2 3 2 3", x.week(1), 4);
        due("all of one", townOf(BRIGHT + "f0,0;f0,0;m0,1,1;").week(1), 0);
        due("none", townOf(BRIGHT).week(1), 0);
    }

    private static void paint() {
        sentence("PAINT: the one THING (not of ink) and the MIX (1 to 31) by which HARM of the next 7 DAYS is least, "
            + "of several the first (by THINGS, then MIX): 32 times the THING, and the MIX; that HARM; "
            + "NONE: nothing can be painted");
        GreyDays x = townOf(BRIGHT + "i1,0;d1,0;m0,1,9;");
        due("not MIX 0, nor the ink", x.bestPaint(0), 34);
        due("harm", x.bestPaint(1), 0);
        // A twin of each MIX from 1 to 30 is alike with one of these on some WEEKDAY; of 31 it never is.
        x = townOf("c0,1,2,3,4,5,5;w1,0;i16,0;i24,0;i8,0;i6,0;i4,0;d3,0;m0,1,1;m0,2,1;m0,3,1;m0,4,1;m0,5,1;m0,6,1;");
        due("MIX 31", x.bestPaint(0), 31);
        due("MIX 31", x.bestPaint(1), 0);
        x = townOf(BRIGHT + "d1,0;d1,0;m0,1,9;");
        due("the first THING", x.bestPaint(0), 2);
        x = townOf(BRIGHT + "d9,0;d8,0;m0,1,9;");
        due("the first MIX, none is better", x.bestPaint(0), 1);
        x = townOf(BRIGHT + "f9,0;i8,0;i7,0;f6,0;i5,0;i4,0;d3,0;m0,1,9;");
        due("the last THING, in no pair", x.bestPaint(0), 6 * 32 + 1);
        due("HARM stays", x.bestPaint(1), 0);
        x = townOf(BRIGHT + "f9,0;i0,0;s7,0;m0,1,9;");
        due("a shining one", x.bestPaint(0), 65);
        due("HARM of 7 days", x.bestPaint(1), 63);
        for (String none : new String[] {"", "i1,0;", "f1,0;", "i1,0;f1,0;m0,1,1;"}) {
            due("none of " + none, townOf(BRIGHT + none).bestPaint(0), NONE);
            due("harm, none of " + none, townOf(BRIGHT + none).bestPaint(1), NONE);
        }
        // Faded: alike with MIX 1 while 0 is missing (6 DAYS), with 2 while 1 is (once): 3 is never nothing.
        x = townOf("c1,0,0,0,0,0,0;d1,0;f0,0;m0,1,3;");
        due("all of the 7 days", x.bestPaint(0), 3);
        x = townOf("c5,5,5,5,5,5,0;d1,0;f0,0;m0,1,3;");
        due("the seventh, too", x.bestPaint(0), 2);
        x = townOf("c0,5,5,5,5,5,5;d1,0;f0,0;m0,1,3;");
        due("today, too", x.bestPaint(0), 2);
    }

    private static void dyes() {
        sentence("DYES for n new dyed THINGS (1 to 6): MIXES (1 to 31), rising, none of whose LOOKS are alike on any "
            + "WEEKDAY, the first such row (by the first, then the next ones): the k-th; "
            + "how many such rows there are for 2 of them; NONE");
        GreyDays x = townOf(BRIGHT + "d1,0;d2,0;d3,0;");
        for (int n = 1; n <= 6; n++) {
            for (int k = 0; k < n; k++) {
                due("n " + n + ", k " + k, x.dyes(n, k), k + 1);
            }
            due("31 times 30 by 2", x.dyes(n, -1), 465);
            due("k is n", x.dyes(n, n), BAD);
            due("k -2", x.dyes(n, -2), BAD);
        }
        due("n 0", x.dyes(0, -1), BAD);
        due("n 7", x.dyes(7, -1), BAD);
        // One COLOUR is missing: of two that are one but for it the lesser comes alone.
        int[][] rows = {{1, 2, 4, 6, 8, 10}, {1, 2, 4, 5, 8, 9}, {1, 2, 3, 4, 8, 9}, {1, 2, 3, 4, 5, 6}, {1, 2, 3, 4, 5, 6}};
        for (int colour = 0; colour < 5; colour++) {
            x = townOf(BRIGHT);
            x.miss(3, colour);
            for (int k = 0; k < 6; k++) {
                due("by " + colour + ", k " + k, x.dyes(6, k), rows[colour][k]);
            }
        }
        // Two are alike, if they are one but for a COLOUR missing: 15 pairs for each such COLOUR.
        for (int weekday = 0; weekday < 7; weekday++) {
            x = townOf(BRIGHT);
            x.miss(weekday, 0);
            due("0 on " + weekday, x.dyes(2, -1), 450);
            int[] row = {1, 2, 4, 6, 8, 10};
            for (int k = 0; k < 6; k++) {
                due("0 on " + weekday + ", k " + k, x.dyes(6, k), row[k]);
            }
            x.miss(weekday, 4);
            due("4 on " + weekday, x.dyes(2, -1), 450);
        }
        for (int set = 0; set <= 31; set++) {
            x = townOf(BRIGHT);
            int missing = 0;
            for (int colour = 0; colour < 5; colour++) {
                if ((set >> colour & 1) != 0) {
                    x.miss(missing++, colour);
                }
            }
            due("rows of 2, without " + set, x.dyes(2, -1), 465 - 15 * missing);
            due("never NONE, without " + set, x.dyes(6, 5) > 5 ? 1 : 0, 1);
        }
        x = townOf("c0,1,2,3,4,4,4;");
        due("all five", x.dyes(2, -1), 390);
        int[] row = {1, 2, 4, 7, 8, 11};
        for (int k = 0; k < 6; k++) {
            due("all five, k " + k, x.dyes(6, k), row[k]);
        }
    }

    private static void thief() {
        sentence("THIEF: the DAY of the next 7, and the THING that is ALIKE with most others then, of several the first "
            + "(by DAYS, then THINGS): 7 times the DAY, and the THING; with how many");
        GreyDays x = townOf("c5,5,5,5,5,5,0;i4,0;i5,0;i6,0;i7,0;i8,0;d3,0;d2,0;");
        due("the last day, 5 and 6", x.thief(0), 6 * 7 + 5);
        due("with one", x.thief(1), 1);
        x.days(6);
        due("today", x.thief(0), 5);
        x.days(1);
        due("in six days", x.thief(0), 47);
        x = townOf(BRIGHT + "i4,0;i5,0;i5,0;i4,0;");
        due("the first of two", x.thief(0), 0);
        due("with one", x.thief(1), 1);
        x = townOf("c5,5,5,0,5,0,5;i4,0;i5,0;i5,0;d3,0;d2,0;i2,0;");
        due("more on the fourth day", x.thief(0), 3 * 7 + 3);
        due("with two", x.thief(1), 2);
        x = townOf(BRIGHT + "f0,0;f1,0;f2,0;f3,0;f4,0;f5,0;f6,0;");
        due("all", x.thief(0), 0);
        due("with six", x.thief(1), 6);
        x = townOf(BRIGHT + "i1,0;i2,0;");
        due("with none: the first", x.thief(0), 0);
        due("with none", x.thief(1), 0);
        due("no things", townOf(BRIGHT).thief(0), NONE);
        due("no things", townOf(BRIGHT).thief(1), NONE);
    }

    private static void seen() {
        sentence("SEEN: a row tells LOOKS of all THINGS: WEEKDAYS (bits) on which they are so");
        GreyDays x = townOf("c0,1,2,3,4,5,0;d31,0;i9,0;");
        int[] looks = {30, 29, 27, 23, 15, 31};
        int[] bits = {65, 2, 4, 8, 16, 32};
        x.row(0, 0, 2);
        x.set(0, 1, 9);
        for (int i = 0; i < 6; i++) {
            x.set(0, 0, looks[i]);
            due("looks " + looks[i], x.seen(0, 0), bits[i]);
        }
        x.set(0, 0, 28);
        due("never", x.seen(0, 0), 0);
        x.set(0, 0, 31);
        x.set(0, 1, 8);
        due("one is not so", x.seen(0, 0), 0);
        x.set(0, 1, 9);
        x.days(3);
        due("by WEEKDAYS, not from today", x.seen(0, 0), 32);
        x.paint(0, 0);
        x.set(0, 0, 0);
        due("on all", x.seen(0, 0), 127);
        sentence("SEEN, as many ITEMS as THINGS, of a ROW from i on");
        x = townOf(BRIGHT + "i1,0;i2,0;i3,0;i4,0;i5,0;i6,0;i7,0;");
        x.row(1, 2, 40);
        for (int i = 0; i < 7; i++) {
            x.set(1, 33 + i, i + 1);
        }
        due("the last seven", x.seen(1, 33), 127);
        due("the seven ahead", x.seen(1, 32), 0);
        due("beyond the end", x.seen(1, 34), PLACE);
        x.set(1, 39, 0);
        due("the seventh counts", x.seen(1, 33), 0);
    }

    private static void order(GreyDays x, int d, int... things) {
        for (int k = 0; k < 7; k++) {
            due("place " + k, x.shelf(d, k), k < things.length ? things[k] : NONE);
        }
    }

    private static void shelf() {
        sentence("SHELF: all THINGS in an order so that no neighbours are ALIKE on a DAY: in how many; "
            + "the k-th of the first one (by numbers); NONE");
        GreyDays x = townOf(BRIGHT + "i1,0;i2,0;i3,0;i4,0;i5,0;i6,0;i7,0;");
        due("7 times 6 times 5 ..", x.shelf(0, -1), 5040);
        order(x, 0, 0, 1, 2, 3, 4, 5, 6);
        x = townOf(BRIGHT + "f0,0;f0,0;");
        due("two alike", x.shelf(0, -1), 0);
        order(x, 0);
        x = townOf(BRIGHT + "i1,0;i2,0;i3,0;i3,0;i3,0;");
        due("3 on each even place", x.shelf(0, -1), 12);
        order(x, 0, 2, 0, 3, 1, 4);
        x = townOf(BRIGHT + "i3,0;i3,0;i3,0;i3,0;i2,0;i1,0;i0,0;");
        due("four of seven", x.shelf(0, -1), 144);
        order(x, 0, 0, 4, 1, 5, 2, 6, 3);
        x = townOf(BRIGHT + "i3,0;i3,0;i3,0;i3,0;i3,0;i2,0;i1,0;");
        due("five of seven", x.shelf(0, -1), 0);
        order(x, 0);
        x = townOf(BRIGHT);
        due("none: one order", x.shelf(0, -1), 1);
        order(x, 0);
        x = townOf(BRIGHT + "d1,0;");
        due("one", x.shelf(0, -1), 1);
        order(x, 0, 0);
        x = townOf("c0,5,5,5,5,5,5;d3,0;d2,0;i1,0;");
        due("today 0 and 1 are apart", x.shelf(0, -1), 2);
        order(x, 0, 0, 2, 1);
        due("tomorrow all are unlike", x.shelf(1, -1), 6);
        order(x, 1, 0, 1, 2);
    }

    private static void parted() {
        sentence("PARTED: pairs of THINGS that are ALIKE on a DAY, and not on another: how many; "
            + "the first (7 times the lesser, and the other; NONE)");
        GreyDays x = townOf("c0,5,5,5,5,5,5;i4,0;i5,0;i6,0;i7,0;i8,0;d3,0;d2,0;");
        due("5 and 6", x.parted(0, 1, 0), 1);
        due("5 and 6", x.parted(0, 1, 1), 41);
        due("not the other way", x.parted(1, 0, 0), 0);
        due("not the other way", x.parted(1, 0, 1), NONE);
        due("one day", x.parted(0, 0, 0), 0);
        due("one WEEKDAY", x.parted(0, 7, 1), NONE);
        due("d 100 is WEEKDAY 2", x.parted(98, 100, 1), 41);
        x = townOf("c0,5,5,5,5,5,5;f0,0;d1,0;");
        due("0 and 1", x.parted(0, 1, 1), 1);
        x = townOf("c0,1,5,5,5,5,5;d2,0;d3,0;i2,0;w3,0;");
        // With 0 missing: 2 2 2 2; with 1 missing: 0 1 2 1.
        due("six less 1 and 3", x.parted(0, 1, 0), 5);
        due("the first", x.parted(0, 1, 1), 1);
        due("none told", townOf(BRIGHT).parted(0, 1, 0), 0);
        due("none told", townOf(BRIGHT).parted(0, 1, 1), NONE);
    }

    private static void merged() {
        sentence("MERGED: the fewest COLOURS that must be missing so that two THINGS are ALIKE: which (bits), "
            + "of several the least; NONE");
        GreyDays x = townOf(BRIGHT + "d31,0;f0,0;i31,0;d10,0;w15,0;d7,0;w7,0;");
        due("all five", x.merged(0, 1), 31);
        due("the other way", x.merged(1, 0), 31);
        due("none at all", x.merged(0, 2), 0);
        due("never", x.merged(1, 2), NONE);
        // With 4 missing 10 and 8+2; with 1 and 2 missing 8 and 8: 4 is one COLOUR, 3 are two.
        due("fewer ahead of less", x.merged(3, 4), 4);
        // 7 and 6: two of three must be missing, and the third is left.
        due("the least of several", x.merged(5, 6), 3);
        x = townOf(BRIGHT + "s5,0;s5,0;s5,1;s4,0;d5,0;");
        due("shining ones", x.merged(0, 1), 0);
        due("of two shapes", x.merged(0, 2), NONE);
        due("shining ones of two mixes", x.merged(0, 3), 1);
        due("shining and dyed", x.merged(0, 4), NONE);
    }

    private static void tests() {
        sentence("TESTS on a DAY, a look and a shape costing so much (0 to 20 each): THINGS can be told by nothing, "
            + "by LOOKS alone, by SHAPES alone, or by both");
        GreyDays x = townOf(BRIGHT + "i1,0;i2,1;");
        for (int bad : new int[] {LEAST, -1, 21, MOST}) {
            due("looks " + bad, x.tests(0, bad, 0, 0), BAD);
            due("shapes " + bad, x.tests(0, 0, bad, 0), BAD);
        }
        due("nothing", townOf(BRIGHT + "i1,0;").tests(0, 20, 20, 1), 0);
        due("looks alone", townOf(BRIGHT + "i1,0;i2,0;").tests(0, 20, 0, 1), 20);
        due("shapes alone", townOf(BRIGHT + "i1,0;i1,1;").tests(0, 0, 20, 1), 20);
        due("both", townOf(BRIGHT + "i1,0;i1,1;i2,0;").tests(0, 20, 20, 1), 40);
        sentence("by how many of them each told from all others there are most, of several ways the one that costs "
            + "least: how many that are; the cost");
        due("all told", x.tests(0, 9, 8, 0), 2);
        due("by shapes for 8", x.tests(0, 9, 8, 1), 8);
        due("by looks for 8", x.tests(0, 8, 9, 1), 8);
        due("for nothing", x.tests(0, 0, 0, 1), 0);
        x = townOf(BRIGHT + "i1,0;i1,0;i1,1;i2,0;");
        // By LOOKS 3 alone, by SHAPES 2 alone, by both 2 and 3.
        due("not all", x.tests(0, 20, 20, 0), 2);
        due("not all", x.tests(0, 20, 20, 1), 40);
        x = townOf(BRIGHT + "i1,0;i1,0;i2,0;i2,0;");
        due("none", x.tests(0, 1, 1, 0), 0);
        due("none, by nothing", x.tests(0, 1, 1, 1), 0);
        due("no things", townOf(BRIGHT).tests(0, 1, 1, 0), 0);
        due("no things", townOf(BRIGHT).tests(0, 1, 1, 1), 0);
        due("alone", townOf(BRIGHT + "f0,0;").tests(0, 1, 1, 0), 1);
        x = townOf("c0,5,5,5,5,5,5;d3,0;d2,0;");
        due("today", x.tests(0, 1, 1, 0), 0);
        due("tomorrow", x.tests(1, 1, 1, 0), 2);
        due("in 98 days", x.tests(98, 1, 1, 0), 0);
        due("in 100 days", x.tests(100, 1, 1, 0), 2);
    }

    private static void bet() {
        sentence("BET on a COLOUR for n DAYS (0 to 12), each of the five as likely to be missing on each, apart: "
            + "how likely it is missing on k of these, or more: a fraction");
        GreyDays x = new GreyDays();
        long[][] told = {{0, 0, 1, 1}, {1, 0, 1, 1}, {1, 1, 1, 5}, {2, 1, 9, 25}, {2, 2, 1, 25}, {6, 5, 1, 625},
            {6, 6, 1, 15625}, {11, 11, 1, 48828125}, {12, 0, 1, 1}, {12, 1, 227363409, 244140625},
            {12, 11, 49, 244140625}, {12, 12, 1, 244140625}};
        for (long[] one : told) {
            due("above of " + one[0] + ", " + one[1], x.bet((int) one[0], (int) one[1], 0), one[2]);
            due("below of " + one[0] + ", " + one[1], x.bet((int) one[0], (int) one[1], 1), one[3]);
        }
        for (int bad : new int[] {LEAST, -1, 13, MOST}) {
            due("n " + bad, x.bet(bad, 0, 0), BAD);
        }
        sentence("fractions, told as two numbers in lowest terms (0 is 0 by 1)");
        // 5 of 6 or more: 6 times 4, and 1: 25 of 15625.
        due("25 of 15625", x.bet(6, 5, 0), 1);
        due("25 of 15625", x.bet(6, 5, 1), 625);
        for (int n = 0; n <= 12; n++) {
            due("all of all", x.bet(n, 0, 0), 1);
            due("all of all", x.bet(n, 0, 1), 1);
            long below = 1;
            for (int i = 0; i < n; i++) {
                below *= 5;
            }
            due("n of n", x.bet(n, n, 0), 1);
            due("n of n", x.bet(n, n, 1), below);
        }
    }

    private static void year() {
        sentence("YEAR of n DAYS (0 to 200) by a SEED (X at first): on each X becomes the rest of (X times 16807) by "
            + "2147483647, and the COLOUR that is the rest of that by 6 is missing (5: none): HARM, added; "
            + "on how many of these there is none");
        // SEED 1: 16807, 282475249, 1622650073, 984943658, 1144108930, 470211272, 101027544: COLOURS 1 1 5 2 4 2 0.
        int[] colours = {1, 1, 5, 2, 4, 2, 0};
        for (int colour = 0; colour < 5; colour++) {
            // Alike with that COLOUR missing alone.
            GreyDays x = townOf(BRIGHT + "d" + (1 << colour) + ",0;f0,0;m0,1,7;");
            int times = 0;
            for (int n = 0; n <= 7; n++) {
                due("harm of " + n, x.year(n, 1, 0), 7 * times);
                due("none of " + n, x.year(n, 1, 1), n - times);
                times += n < 7 && colours[n] == colour ? 1 : 0;
            }
        }
        // Unlike with 0 or 2 missing: on the fourth, the sixth and the seventh DAY.
        GreyDays x = townOf(PLAIN + "i5,0;d5,0;m0,1,1;");
        due("none missing is alike", x.year(3, 1, 0), 3);
        due("four of seven", x.year(7, 1, 0), 4);
        due("three of seven", x.year(7, 1, 1), 3);
        x = townOf(PLAIN + "f0,0;f0,0;m0,1,20;");
        due("200 days", x.year(200, 999999, 0), 4000);
        due("200 days", x.year(200, 1, 1), 0);
        due("201 days", x.year(201, 1, 0), BAD);
        due("-1 days", x.year(-1, 1, 0), BAD);
        // 999999 times 16807 is 16806983193; less 7 times 2147483647 it is 1774597664: COLOUR 2.
        x = townOf(PLAIN + "d4,0;f0,0;m0,1,3;");
        due("SEED 999999", x.year(1, 999999, 0), 3);
    }

    private static void kinds() {
        sentence("KINDS of THINGS: 0 THING; 1 DYED, a THING; 2 TWIN, a DYED one; 3 SHINING, a DYED one; "
            + "4 INK, a THING; 5 FADED, an INK");
        GreyDays x = townOf(PLAIN + "d1,0;w1,0;s1,0;i1,0;f1,0;");
        String[] isOf = {"01", "012", "013", "04", "045"};
        for (int one = 0; one < 5; one++) {
            due("kind of " + one, x.kind(one), one + 1);
            for (int kind = 0; kind <= 5; kind++) {
                boolean is = isOf[one].indexOf('0' + kind) >= 0;
                due(one + " as " + kind, x.as(one, kind), is ? one : KIND);
            }
        }
    }

    // ---- 4: ASKS

    private static void ask(GreyDays x, int one, int what, int answer, int... bodies) {
        due("ask " + what + " of " + one, x.ask(one, what), answer);
        for (int i = 0; i < 17; i++) {
            due("trace " + i + " of " + one, x.trace(i), i < bodies.length ? bodies[i] : NONE);
        }
    }

    private static void sizes() {
        sentence("0 SIZE: 10 lent to all THINGS: MIX. 11 of DYED ones: what 10 gives, and MARK. 12 of TWINS: "
            + "0 less what 11 gives. 13 of INK: what 10 gives, less 100. 14 of FADED ones: what 13 gives, twice");
        // LOOKS: 31, 30, 159, 31, 0, 0.
        GreyDays x = townOf(BRIGHT + "d31,0;w31,0;s31,3;i31,0;f31,0;f0,0;");
        ask(x, 0, 0, 31 + 31, 11, 10, 21, 20);
        ask(x, 1, 0, -(31 + 2 * (1 + 30)), 12, 11, 10, 24, 21, 20);
        ask(x, 2, 0, 31 + (2 + 159 - 1000), 11, 10, 22, 21, 20);
        ask(x, 3, 0, 31 - 100, 13, 10);
        ask(x, 4, 0, 2 * (31 - 100), 14, 13, 10);
        ask(x, 5, 0, -200, 14, 13, 10);
        x = townOf(BRIGHT + "d0,0;w0,0;");
        ask(x, 0, 0, 0, 11, 10, 21, 20);
        ask(x, 1, 0, -2, 12, 11, 10, 24, 21, 20);
    }

    private static void marks() {
        sentence("1 MARK: 20 lent to all THINGS: the number. 21 of DYED ones: what 20 gives, and LOOK today. "
            + "22 of SHINING ones: what 21 gives, less 1000. 23 of INK: what 20 gives, less SIZE. "
            + "24 of TWINS: what 21 gives, twice");
        // Today 0 is missing: LOOKS 30, 28, 158, 31, 0; tomorrow 1 is: 29, 28, 157.
        GreyDays x = townOf(PLAIN + "d31,0;w31,0;s31,3;i31,0;f31,0;");
        ask(x, 0, 1, 30, 21, 20);
        ask(x, 1, 1, 2 * (1 + 28), 24, 21, 20);
        ask(x, 2, 1, 2 + 158 - 1000, 22, 21, 20);
        ask(x, 3, 1, 3 - (31 - 100), 23, 20, 13, 10);
        ask(x, 4, 1, 4 - 2 * (31 - 100), 23, 20, 14, 13, 10);
        x.days(1);
        ask(x, 0, 1, 29, 21, 20);
        ask(x, 2, 1, 2 + 157 - 1000, 22, 21, 20);
    }

    private static void nearestBody() {
        sentence("(Of an ask the BODY told for the KIND begins, else that of the nearest KIND that it is, too, else the "
            + "one that is lent; SIZE, MARK within others are asked of the same THING anew.)");
        GreyDays x = townOf(BRIGHT + "f1,0;s1,0;w1,0;i1,0;d1,0;");
        int[] firstOfSize = {14, 11, 12, 13, 11};
        int[] firstOfMark = {23, 22, 24, 23, 21};
        int[] lastOfSize = {10, 20, 20, 10, 20};
        int[] lastOfMark = {10, 20, 20, 10, 20};
        int[] longOfSize = {3, 5, 6, 2, 4};
        int[] longOfMark = {5, 3, 3, 4, 2};
        for (int one = 0; one < 5; one++) {
            x.ask(one, 0);
            due("SIZE of " + one + " begins by", x.trace(0), firstOfSize[one]);
            due("SIZE of " + one + " ends by", x.trace(longOfSize[one] - 1), lastOfSize[one]);
            due("no more", x.trace(longOfSize[one]), NONE);
            x.ask(one, 1);
            due("MARK of " + one + " begins by", x.trace(0), firstOfMark[one]);
            due("MARK of " + one + " ends by", x.trace(longOfMark[one] - 1), lastOfMark[one]);
            due("no more", x.trace(longOfMark[one]), NONE);
        }
        // Painted, and restored from an IMAGE, a THING is still of its KIND.
        x.paint(2, 3);
        x.image(0);
        x.restore(0);
        ask(x, 2, 0, -(3 + 2 * (2 + 2)), 12, 11, 10, 24, 21, 20);
    }

    private static void trace() {
        sentence("each of which leaves its number in THE TRACE as it begins (the first 16)");
        GreyDays x = townOf(BRIGHT + "w31,0;i3,0;");
        due("none yet", x.trace(0), NONE);
        // The longest there is has six.
        ask(x, 0, 0, -(31 + 2 * 30), 12, 11, 10, 24, 21, 20);
        ask(x, 1, 0, -97, 13, 10);
        for (int i : new int[] {LEAST, -1, 2, 15, 16, 17, MOST}) {
            due("trace " + i, x.trace(i), NONE);
        }
    }
}
