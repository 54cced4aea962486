import java.util.Arrays;

/** Colours of which each day one is not seen by anybody; see README.md for how to use it. */
public final class GreyDays {
    public static final int NONE = -1000000, BAD = -1000001, STATE = -1000002, FULL = -1000003;

    private static final int FINDINGS = -1000010;
    private static final int NULL = 1, PLACE = 2, KIND = 3, SIZE = 4, STORE = 5;
    private static final int FAULTS = -1000100;
    private static final int FARTHEST = 100;
    private static final int LAST_DAY = 999;
    private static final int IMAGES = 2;

    private final Rows rows;
    private final Tape tape;
    private final Foretold foretold;
    private final Asking asking;
    private final Town[] images;
    private Town present;
    private int latestFault;
    private int latestFinding;

    public GreyDays() {
        rows = new Rows();
        tape = new Tape();
        foretold = new Foretold();
        asking = new Asking();
        images = new Town[IMAGES];
    }

    // ---- rows

    public int row(int row, int lane, int n) {
        if (!Rows.isNumber(row) || lane < 0 || lane >= Rows.LANES || n > Rows.LONGEST) {
            return BAD;
        }
        if (finds(n < 0 ? SIZE : 0)) {
            return finding();
        }
        rows.make(row, lane, n);
        return n;
    }

    public int set(int row, int i, int v) {
        if (!Rows.isNumber(row)) {
            return BAD;
        }
        if (finds(findingOfPlaces(row, i, 1))) {
            return finding();
        }
        return rows.put(row, i, v);
    }

    public int copy(int a, int i, int b, int j, int n) {
        if (!Rows.isNumber(a) || !Rows.isNumber(b)) {
            return BAD;
        }
        if (finds(findingOfMove(a, i, b, j, n))) {
            return finding();
        }
        rows.move(a, i, b, j, n);
        return n;
    }

    public int drop(int row) {
        if (!Rows.isNumber(row)) {
            return BAD;
        }
        if (finds(rows.isThere(row) ? 0 : NULL)) {
            return finding();
        }
        return rows.remove(row);
    }

    // ---- what is told

    public int feed(int letter) {
        if (letter < 0 || letter > 255) {
            return BAD;
        }
        return tape.put(letter) ? tape.length() : FULL;
    }

    public int town() {
        Town told = tape.read();
        if (told == null) {
            latestFault = tape.faultNumber();
            return FAULTS - tape.faultPlace();
        }
        present = told;
        return told.thingCount();
    }

    public int fault() {
        return latestFault;
    }

    public int undo() {
        if (present == null || present.actCount() == 0) {
            return STATE;
        }
        present.undoLatest();
        return present.actCount();
    }

    // ---- what is done

    public int days(int n) {
        if (present == null) {
            return STATE;
        }
        if (n < 1 || n > Town.MOST_ACTS) {
            return BAD;
        }
        if (present.today() + n > LAST_DAY) {
            return FULL;
        }
        present.passDays(n);
        return present.today();
    }

    public int paint(int thing, int mix) {
        if (!isThing(thing) || !isSet(mix)) {
            return BAD;
        }
        if (!present.thingAt(thing).takesPaint()) {
            return STATE;
        }
        return present.repaint(thing, mix);
    }

    public int miss(int weekday, int colour) {
        if (present == null) {
            return STATE;
        }
        if (!isWeekday(weekday) || colour < 0 || colour > Town.NO_COLOUR) {
            return BAD;
        }
        return present.changeWeek(weekday, colour);
    }

    public int thing(int thing, int what) {
        if (!isThing(thing)) {
            return BAD;
        }
        switch (what) {
            case 0: return present.thingAt(thing).mixed();
            case 1: return present.thingAt(thing).shaped();
            case 2: return present.thingAt(thing).lookWithout(present.missingIn(0));
            case 3: return present.harmOfPairsWith(thing);
            default: return BAD;
        }
    }

    public int missing(int weekday) {
        if (present == null) {
            return STATE;
        }
        return isWeekday(weekday) ? present.colourOn(weekday) : BAD;
    }

    public int pair(int a, int b) {
        return areTwo(a, b) ? present.harmOfPair(a, b) : BAD;
    }

    public int look(int thing, int set) {
        if (!isThing(thing) || !isSet(set)) {
            return BAD;
        }
        return present.thingAt(thing).lookWithout(set);
    }

    // ---- foretold

    public int alike(int a, int b, int d) {
        if (!areTwo(a, b) || !isAhead(d)) {
            return BAD;
        }
        return present.areAlike(a, b, present.missingIn(d)) ? 1 : 0;
    }

    public int like(int thing, int d) {
        if (!isThing(thing) || !isAhead(d)) {
            return BAD;
        }
        return foretold.alikeWith(present, thing, d);
    }

    public int looks(int d) {
        if (present == null) {
            return STATE;
        }
        return isAhead(d) ? foretold.unlikeLooks(present, d) : BAD;
    }

    public int harm(int d) {
        if (present == null) {
            return STATE;
        }
        return isAhead(d) ? present.harmWithout(present.missingIn(d)) : BAD;
    }

    public int harms(int n) {
        if (present == null) {
            return STATE;
        }
        return n >= 1 && n <= FARTHEST ? foretold.harmOfDays(present, n) : BAD;
    }

    public int week(int what) {
        if (present == null) {
            return STATE;
        }
        if (!isChoice(what)) {
            return BAD;
        }
        return what == 0 ? foretold.clearDays(present) : foretold.worstDay(present);
    }

    public int bestPaint(int what) {
        if (present == null) {
            return STATE;
        }
        return isChoice(what) ? foretold.leastHarmPaint(present, what) : BAD;
    }

    public int dyes(int n, int k) {
        if (present == null) {
            return STATE;
        }
        if (n < 1 || n > Foretold.MOST_DYES || k < -1 || k >= n) {
            return BAD;
        }
        return k < 0 ? foretold.countDyePairs(present) : foretold.dyeOfFirstRow(present, n, k);
    }

    public int thief(int what) {
        if (present == null) {
            return STATE;
        }
        return isChoice(what) ? foretold.bestHiding(present, what) : BAD;
    }

    public int seen(int row, int i) {
        if (present == null) {
            return STATE;
        }
        if (!Rows.isNumber(row)) {
            return BAD;
        }
        if (finds(findingOfPlaces(row, i, present.thingCount()))) {
            return finding();
        }
        return foretold.weekdaysSeen(present, rows, row, i);
    }

    public int shelf(int d, int k) {
        if (present == null) {
            return STATE;
        }
        if (!isAhead(d) || k < -1 || k >= Town.MOST_THINGS) {
            return BAD;
        }
        return k < 0 ? foretold.countOrders(present, d) : foretold.placeOfFirstOrder(present, d, k);
    }

    public int parted(int d, int e, int what) {
        if (present == null) {
            return STATE;
        }
        if (!isAhead(d) || !isAhead(e) || !isChoice(what)) {
            return BAD;
        }
        return what == 0 ? foretold.countParting(present, d, e) : foretold.firstParting(present, d, e);
    }

    public int merged(int a, int b) {
        return areTwo(a, b) ? foretold.fewestMissing(present, a, b) : BAD;
    }

    public int tests(int d, int looks, int shapes, int what) {
        if (present == null) {
            return STATE;
        }
        if (!isAhead(d) || !isCost(looks) || !isCost(shapes) || !isChoice(what)) {
            return BAD;
        }
        return foretold.bestTest(present, d, looks, shapes, what);
    }

    public long bet(int n, int k, int what) {
        if (n < 0 || n > Foretold.LONGEST_BET || k < 0 || k > n || !isChoice(what)) {
            return BAD;
        }
        return Foretold.likelihood(n, k, what);
    }

    public int year(int n, int seed, int what) {
        if (present == null) {
            return STATE;
        }
        if (n < 0 || n > 200 || seed < 1 || seed > 999999 || !isChoice(what)) {
            return BAD;
        }
        return foretold.drawnYear(present, n, seed, what);
    }

    public int image(int k) {
        if (k < 0 || k >= IMAGES) {
            return BAD;
        }
        if (present == null) {
            return STATE;
        }
        images[k] = present.duplicate();
        return 1;
    }

    public int restore(int k) {
        if (k < 0 || k >= IMAGES) {
            return BAD;
        }
        Town kept = images[k];
        if (kept == null) {
            return STATE;
        }
        // A duplicate, so that later ACTS leave the IMAGE as it was kept.
        present = kept.duplicate();
        return 1;
    }

    // ---- asked

    public int kind(int one) {
        return isThing(one) ? present.thingAt(one).kindTold() : BAD;
    }

    public int as(int one, int kind) {
        if (!isThing(one) || kind < 0 || kind > Town.FADED) {
            return BAD;
        }
        return finds(isOfKind(present.thingAt(one), kind) ? 0 : KIND) ? finding() : one;
    }

    public int ask(int one, int what) {
        if (!isThing(one) || !isChoice(what)) {
            return BAD;
        }
        Thing asked = present.thingAt(one);
        asking.start(present.missingIn(0));
        return what == 0 ? asked.sizeAsked(asking) : asked.markAsked(asking);
    }

    public int trace(int i) {
        return asking.left(i);
    }

    public int count(int what) {
        if (what == 0) {
            return rows.present();
        }
        if (what == 6) {
            return tape.length();
        }
        if (what < 0 || what > 6) {
            return BAD;
        }
        return present == null ? 0 : countOfTown(what);
    }

    public int status() {
        return latestFinding;
    }

    // ---- what the calls share

    private int countOfTown(int what) {
        switch (what) {
            case 1: return present.thingCount();
            case 2: return present.pairCount();
            case 3: return present.today();
            case 4: return present.harmWithout(present.missingIn(0));
            default: return present.actCount();
        }
    }

    private boolean finds(int number) {
        latestFinding = number;
        return number != 0;
    }

    private int finding() {
        return FINDINGS - latestFinding;
    }

    private int findingOfPlaces(int row, int i, int n) {
        if (!rows.isThere(row)) {
            return NULL;
        }
        return rows.hasPlaces(row, i, n) ? 0 : PLACE;
    }

    private int findingOfMove(int a, int i, int b, int j, int n) {
        if (!rows.isThere(a) || !rows.isThere(b)) {
            return NULL;
        }
        if (!rows.haveOneLane(a, b)) {
            return STORE;
        }
        return rows.hasPlaces(a, i, n) && rows.hasPlaces(b, j, n) ? 0 : PLACE;
    }

    private boolean isThing(int i) {
        return present != null && present.hasThing(i);
    }

    private boolean areTwo(int a, int b) {
        return isThing(a) && isThing(b) && a != b;
    }

    private static boolean isOfKind(Thing one, int kind) {
        switch (kind) {
            case Town.THING: return true;
            case Town.DYED: return one instanceof Dyed;
            case Town.TWIN: return one instanceof Twin;
            case Town.SHINING: return one instanceof Shining;
            case Town.INK: return one instanceof Ink;
            case Town.FADED: return one instanceof Faded;
            default: return false;
        }
    }

    private static boolean isSet(int set) {
        return set >= 0 && set <= Town.ALL_COLOURS;
    }

    private static boolean isWeekday(int weekday) {
        return weekday >= 0 && weekday < Town.WEEK;
    }

    private static boolean isAhead(int d) {
        return d >= 0 && d <= FARTHEST;
    }

    private static boolean isChoice(int what) {
        return what == 0 || what == 1;
    }

    private static boolean isCost(int cost) {
        return cost >= 0 && cost <= 20;
    }

    /** ROWS 0 to 7; their room is made once and used again. */
    private static final class Rows {
        static final int LANES = 3, LONGEST = 40;
        private static final int ROWS = 8, MISSING = -1;

        private final int[][] items = new int[ROWS][LONGEST];
        private final int[] lanes = new int[ROWS];
        private final int[] lengths = new int[ROWS];

        Rows() {
            Arrays.fill(lanes, MISSING);
        }

        static boolean isNumber(int row) {
            return row >= 0 && row < ROWS;
        }

        boolean isThere(int row) {
            return isNumber(row) && lanes[row] != MISSING;
        }

        boolean haveOneLane(int a, int b) {
            return isThere(a) && isThere(b) && lanes[a] == lanes[b];
        }

        boolean hasPlaces(int row, int i, int n) {
            // The length less n cannot wrap round, as i and n added could.
            return isThere(row) && i >= 0 && n >= 0 && i <= lengths[row] - n;
        }

        void make(int row, int lane, int n) {
            if (!isNumber(row) || n < 0 || n > LONGEST) {
                return;
            }
            lanes[row] = lane;
            lengths[row] = n;
            Arrays.fill(items[row], 0);
        }

        int put(int row, int i, int v) {
            if (!hasPlaces(row, i, 1)) {
                return 0;
            }
            items[row][i] = cut(lanes[row], v);
            return items[row][i];
        }

        int itemAt(int row, int i) {
            return hasPlaces(row, i, 1) ? items[row][i] : 0;
        }

        void move(int a, int i, int b, int j, int n) {
            if (hasPlaces(a, i, n) && hasPlaces(b, j, n)) {
                System.arraycopy(items[a], i, items[b], j, n);
            }
        }

        int remove(int row) {
            if (!isThere(row)) {
                return 0;
            }
            lanes[row] = MISSING;
            return lengths[row];
        }

        int present() {
            int there = 0;
            for (int row = 0; row < ROWS; row++) {
                if (isThere(row)) {
                    there++;
                }
            }
            return there;
        }

        private static int cut(int lane, int v) {
            switch (lane) {
                case 0: return (byte) v;
                case 1: return (short) v;
                default: return v;
            }
        }
    }

    /** The tape, and how a TOWN is read from it: behind the first FAULT nothing more is taken. */
    private static final class Tape {
        private static final int ROOM = 120;
        private static final int MISPLACED = 1, UNTOLD = 2, TOO_MANY = 3;

        private final int[] bytes = new int[ROOM];
        private int length;
        private int place;
        private int faultNumber;
        private int faultPlace;

        boolean put(int letter) {
            if (length >= ROOM) {
                return false;
            }
            bytes[length] = letter;
            length++;
            return true;
        }

        int length() {
            return length;
        }

        int faultNumber() {
            return faultNumber;
        }

        int faultPlace() {
            return faultPlace;
        }

        /** The TOWN told, or null where there is a FAULT; the tape is empty then. */
        Town read() {
            place = 0;
            faultNumber = 0;
            faultPlace = 0;
            Town told = new Town();
            readLaw(told);
            readThings(told);
            readPairs(told);
            if (place < length) {
                faultAt(place, MISPLACED);
            }
            length = 0;
            return isSound() ? told : null;
        }

        private void readLaw(Town told) {
            takeByte('c');
            for (int weekday = 0; weekday < Town.WEEK; weekday++) {
                if (weekday > 0) {
                    takeByte(',');
                }
                told.setColourOn(weekday, takeNumber(0, Town.NO_COLOUR));
            }
            takeByte(';');
        }

        private void readThings(Town told) {
            for (int i = 0; i <= Town.MOST_THINGS && isSound(); i++) {
                int kind = kindOfSort(byteHere());
                if (kind == Town.THING) {
                    return;
                }
                if (i == Town.MOST_THINGS) {
                    faultAt(place, TOO_MANY);
                } else {
                    readThing(told, kind);
                }
            }
        }

        private void readThing(Town told, int kind) {
            place++;
            int mix = takeNumber(0, Town.ALL_COLOURS);
            takeByte(',');
            int shape = takeNumber(0, 3);
            takeByte(';');
            if (isSound()) {
                told.addThing(kind, mix, shape);
            }
        }

        private void readPairs(Town told) {
            for (int i = 0; i <= Town.MOST_PAIRS && isSound() && byteHere() == 'm'; i++) {
                if (i == Town.MOST_PAIRS) {
                    faultAt(place, TOO_MANY);
                } else {
                    readPair(told);
                }
            }
        }

        private void readPair(Town told) {
            place++;
            int last = told.thingCount() - 1;
            int a = takeNumber(0, last);
            takeByte(',');
            int placeOfB = place;
            int b = takeNumber(0, last);
            if (a == b || told.harmOfPair(a, b) != 0) {
                faultAt(placeOfB, UNTOLD);
            }
            takeByte(',');
            int harm = takeNumber(1, 20);
            takeByte(';');
            if (isSound()) {
                told.addPair(a, b, harm);
            }
        }

        private void takeByte(int wanted) {
            if (!isSound()) {
                return;
            }
            if (byteHere() == wanted) {
                place++;
            } else {
                faultAt(place, MISPLACED);
            }
        }

        private int takeNumber(int least, int most) {
            if (!isSound()) {
                return 0;
            }
            int figures = figuresHere();
            if (figures < 1 || figures > 2) {
                faultAt(place, MISPLACED);
                return 0;
            }
            int number = 0;
            for (int i = place; i < place + figures && i < length; i++) {
                number = number * 10 + bytes[i] - '0';
            }
            if (number < least || number > most) {
                faultAt(place, UNTOLD);
                return 0;
            }
            place += figures;
            return number;
        }

        private int figuresHere() {
            int end = place;
            for (int i = place; i < length && bytes[i] >= '0' && bytes[i] <= '9'; i++) {
                end = i + 1;
            }
            return end - place;
        }

        private int byteHere() {
            return place < length ? bytes[place] : -1;
        }

        private boolean isSound() {
            return faultNumber == 0;
        }

        private void faultAt(int where, int number) {
            if (isSound()) {
                faultPlace = where;
                faultNumber = number;
            }
        }

        private static int kindOfSort(int letter) {
            switch (letter) {
                case 'd': return Town.DYED;
                case 'w': return Town.TWIN;
                case 's': return Town.SHINING;
                case 'i': return Town.INK;
                case 'f': return Town.FADED;
                default: return Town.THING;
            }
        }
    }

    /** The week, the THINGS, the pairs, the DAY, and the ACTS that can be undone. */
    private static final class Town {
        static final int WEEK = 7, MOST_THINGS = 7, MOST_PAIRS = 8, MOST_ACTS = 24;
        static final int NO_COLOUR = 5, ALL_COLOURS = 31;
        static final int THING = 0, DYED = 1, TWIN = 2, SHINING = 3, INK = 4, FADED = 5;
        private static final int DAY_PASSED = 0, PAINTED = 1, WEEK_CHANGED = 2;

        private final int[] colours = new int[WEEK];
        private final Thing[] things = new Thing[MOST_THINGS];
        private int thingCount;
        private final int[] firsts = new int[MOST_PAIRS];
        private final int[] seconds = new int[MOST_PAIRS];
        private final int[] harms = new int[MOST_PAIRS];
        private int pairCount;
        private int day;
        private final int[] actSorts = new int[MOST_ACTS];
        private final int[] actPlaces = new int[MOST_ACTS];
        private final int[] actBefores = new int[MOST_ACTS];
        private int actCount;

        /** The same TOWN apart from this one; no ACT of it can be undone. */
        Town duplicate() {
            Town other = new Town();
            for (int weekday = 0; weekday < WEEK; weekday++) {
                other.colours[weekday] = colours[weekday];
            }
            for (int i = 0; i < thingCount; i++) {
                other.addThing(things[i].kindTold(), things[i].mixed(), things[i].shaped());
            }
            for (int i = 0; i < pairCount; i++) {
                other.addPair(firsts[i], seconds[i], harms[i]);
            }
            other.day = day;
            return other;
        }

        void setColourOn(int weekday, int colour) {
            if (weekday >= 0 && weekday < WEEK) {
                colours[weekday] = colour;
            }
        }

        void addThing(int kind, int mix, int shape) {
            if (thingCount >= MOST_THINGS) {
                return;
            }
            int number = thingCount;
            switch (kind) {
                case TWIN: things[number] = new Twin(number, mix, shape); break;
                case SHINING: things[number] = new Shining(number, mix, shape); break;
                case INK: things[number] = new Ink(number, mix, shape); break;
                case FADED: things[number] = new Faded(number, mix, shape); break;
                default: things[number] = new Dyed(number, mix, shape); break;
            }
            thingCount++;
        }

        void addPair(int a, int b, int harm) {
            if (pairCount < MOST_PAIRS) {
                firsts[pairCount] = a;
                seconds[pairCount] = b;
                harms[pairCount] = harm;
                pairCount++;
            }
        }

        boolean hasThing(int i) {
            return i >= 0 && i < thingCount;
        }

        /** Asked only of numbers that hasThing knows. */
        Thing thingAt(int i) {
            return things[i];
        }

        int thingCount() {
            return thingCount;
        }

        int pairCount() {
            return pairCount;
        }

        int actCount() {
            return actCount;
        }

        int today() {
            return day;
        }

        int colourOn(int weekday) {
            return weekday >= 0 && weekday < WEEK ? colours[weekday] : NO_COLOUR;
        }

        /** The set of COLOURS missing so many DAYS from now on. */
        int missingIn(int d) {
            return missingOn((day + d) % WEEK);
        }

        int missingOn(int weekday) {
            return weekday >= 0 && weekday < WEEK ? setOf(colours[weekday]) : 0;
        }

        static int setOf(int colour) {
            return colour >= 0 && colour < NO_COLOUR ? 1 << colour : 0;
        }

        boolean areAlike(int a, int b, int set) {
            return hasThing(a) && hasThing(b) && things[a].lookWithout(set) == things[b].lookWithout(set);
        }

        int harmWithout(int set) {
            int sum = 0;
            for (int i = 0; i < pairCount; i++) {
                if (areAlike(firsts[i], seconds[i], set)) {
                    sum += harms[i];
                }
            }
            return sum;
        }

        int harmOfPair(int a, int b) {
            for (int i = 0; i < pairCount; i++) {
                if (isOfPair(a, i) && isOfPair(b, i)) {
                    return harms[i];
                }
            }
            return 0;
        }

        int harmOfPairsWith(int thing) {
            int sum = 0;
            for (int i = 0; i < pairCount; i++) {
                if (isOfPair(thing, i)) {
                    sum += harms[i];
                }
            }
            return sum;
        }

        private boolean isOfPair(int thing, int i) {
            return firsts[i] == thing || seconds[i] == thing;
        }

        void passDays(int n) {
            for (int i = 0; i < n; i++) {
                keepAct(DAY_PASSED, 0, day);
                day++;
            }
        }

        int repaint(int thing, int mix) {
            if (!hasThing(thing)) {
                return 0;
            }
            int before = things[thing].mixed();
            keepAct(PAINTED, thing, before);
            things[thing].mixAnew(mix);
            return before;
        }

        int changeWeek(int weekday, int colour) {
            int before = colourOn(weekday);
            keepAct(WEEK_CHANGED, weekday, before);
            setColourOn(weekday, colour);
            return before;
        }

        private void keepAct(int sort, int where, int before) {
            if (actCount >= MOST_ACTS) {
                forgetOldestAct();
            }
            actSorts[actCount] = sort;
            actPlaces[actCount] = where;
            actBefores[actCount] = before;
            actCount++;
        }

        private void forgetOldestAct() {
            actCount = MOST_ACTS - 1;
            System.arraycopy(actSorts, 1, actSorts, 0, actCount);
            System.arraycopy(actPlaces, 1, actPlaces, 0, actCount);
            System.arraycopy(actBefores, 1, actBefores, 0, actCount);
        }

        void undoLatest() {
            if (actCount == 0) {
                return;
            }
            actCount--;
            int where = actPlaces[actCount];
            int before = actBefores[actCount];
            if (actSorts[actCount] == DAY_PASSED) {
                day = before;
            } else if (actSorts[actCount] == WEEK_CHANGED) {
                setColourOn(where, before);
            } else if (hasThing(where)) {
                things[where].mixAnew(before);
            }
        }
    }

    /** A THING of any KIND; the BODIES 10 and 20 are lent to all of them. */
    private abstract static class Thing {
        private final int number;
        private final int shape;
        private int mix;

        Thing(int number, int mix, int shape) {
            this.number = number;
            this.mix = mix;
            this.shape = shape;
        }

        abstract int kindTold();

        /** The LOOK it would have with that MIX, a set of COLOURS being missing. */
        abstract int lookOf(int someMix, int set);

        boolean takesPaint() {
            return !(this instanceof Ink);
        }

        int mixed() {
            return mix;
        }

        int shaped() {
            return shape;
        }

        void mixAnew(int newMix) {
            mix = newMix;
        }

        int lookWithout(int set) {
            return lookOf(mix, set);
        }

        int sizeAsked(Asking asking) {
            asking.begin(10);
            return mix;
        }

        int markAsked(Asking asking) {
            asking.begin(20);
            return number;
        }
    }

    private static class Dyed extends Thing {
        Dyed(int number, int mix, int shape) {
            super(number, mix, shape);
        }

        int kindTold() {
            return Town.DYED;
        }

        int lookOf(int someMix, int set) {
            return someMix & ~set;
        }

        int sizeAsked(Asking asking) {
            asking.begin(11);
            int lent = super.sizeAsked(asking);
            return lent + markAsked(asking);
        }

        int markAsked(Asking asking) {
            asking.begin(21);
            int lent = super.markAsked(asking);
            return lent + lookWithout(asking.missingToday());
        }
    }

    private static final class Twin extends Dyed {
        Twin(int number, int mix, int shape) {
            super(number, mix, shape);
        }

        int kindTold() {
            return Town.TWIN;
        }

        int lookOf(int someMix, int set) {
            int left = someMix & ~set;
            int withoutLeast = left & (left - 1);
            return withoutLeast == 0 ? left : withoutLeast;
        }

        int sizeAsked(Asking asking) {
            asking.begin(12);
            return -super.sizeAsked(asking);
        }

        int markAsked(Asking asking) {
            asking.begin(24);
            return 2 * super.markAsked(asking);
        }
    }

    private static final class Shining extends Dyed {
        Shining(int number, int mix, int shape) {
            super(number, mix, shape);
        }

        int kindTold() {
            return Town.SHINING;
        }

        int lookOf(int someMix, int set) {
            return (someMix & ~set) + 32 * (1 + shaped());
        }

        int markAsked(Asking asking) {
            asking.begin(22);
            return super.markAsked(asking) - 1000;
        }
    }

    private static class Ink extends Thing {
        Ink(int number, int mix, int shape) {
            super(number, mix, shape);
        }

        int kindTold() {
            return Town.INK;
        }

        int lookOf(int someMix, int set) {
            return someMix;
        }

        int sizeAsked(Asking asking) {
            asking.begin(13);
            return super.sizeAsked(asking) - 100;
        }

        int markAsked(Asking asking) {
            asking.begin(23);
            int lent = super.markAsked(asking);
            return lent - sizeAsked(asking);
        }
    }

    private static final class Faded extends Ink {
        Faded(int number, int mix, int shape) {
            super(number, mix, shape);
        }

        int kindTold() {
            return Town.FADED;
        }

        int lookOf(int someMix, int set) {
            return 0;
        }

        int sizeAsked(Asking asking) {
            asking.begin(14);
            return 2 * super.sizeAsked(asking);
        }
    }

    /** THE TRACE of one ask, and the COLOURS missing on the DAY on which it is asked. */
    private static final class Asking {
        private static final int ROOM = 16;

        private final int[] bodies = new int[ROOM];
        private int begun;
        private int missingToday;

        void start(int missing) {
            begun = 0;
            missingToday = missing;
        }

        void begin(int body) {
            if (begun < ROOM) {
                bodies[begun] = body;
                begun++;
            }
        }

        int missingToday() {
            return missingToday;
        }

        int left(int i) {
            return i >= 0 && i < begun ? bodies[i] : NONE;
        }
    }

    /** What is foretold of a TOWN: it only reads it, and uses its own rows again for every call. */
    private static final class Foretold {
        static final int MOST_DYES = 6, LONGEST_BET = 12;

        private final int[] looksThen = new int[Town.MOST_THINGS];
        private final int[] dyeRow = new int[MOST_DYES];
        private final int[] endings = new int[(1 << Town.MOST_THINGS) * Town.MOST_THINGS];

        private void lookAt(Town town, int set) {
            for (int i = 0; i < town.thingCount(); i++) {
                looksThen[i] = town.thingAt(i).lookWithout(set);
            }
        }

        int alikeWith(Town town, int thing, int d) {
            lookAt(town, town.missingIn(d));
            int bits = 0;
            for (int i = 0; i < town.thingCount(); i++) {
                if (looksThen[i] == looksThen[thing]) {
                    bits |= 1 << i;
                }
            }
            return bits;
        }

        int unlikeLooks(Town town, int d) {
            int unlike = 0;
            for (int i = 0; i < town.thingCount(); i++) {
                int lesser = (1 << i) - 1;
                if ((alikeWith(town, i, d) & lesser) == 0) {
                    unlike++;
                }
            }
            return unlike;
        }

        int harmOfDays(Town town, int n) {
            int sum = 0;
            for (int d = 0; d < n; d++) {
                sum += town.harmWithout(town.missingIn(d));
            }
            return sum;
        }

        int clearDays(Town town) {
            int bits = 0;
            for (int d = 0; d < Town.WEEK; d++) {
                if (town.harmWithout(town.missingIn(d)) == 0) {
                    bits |= 1 << d;
                }
            }
            return bits;
        }

        int worstDay(Town town) {
            int worst = 0;
            int most = -1;
            for (int d = 0; d < Town.WEEK; d++) {
                int harm = town.harmWithout(town.missingIn(d));
                if (harm > most) {
                    most = harm;
                    worst = d;
                }
            }
            return worst;
        }

        int leastHarmPaint(Town town, int what) {
            int whole = harmOfDays(town, Town.WEEK);
            int best = NONE;
            int least = NONE;
            for (int i = 0; i < town.thingCount(); i++) {
                if (!town.thingAt(i).takesPaint()) {
                    continue;
                }
                // Only the pairs of the painted one can change.
                int others = whole - weekHarmWith(town, i, town.thingAt(i).mixed());
                for (int mix = 1; mix <= Town.ALL_COLOURS; mix++) {
                    int harm = others + weekHarmWith(town, i, mix);
                    if (best == NONE || harm < least) {
                        best = 32 * i + mix;
                        least = harm;
                    }
                }
            }
            return what == 0 ? best : least;
        }

        /** HARM of a week of all pairs that a THING is of, were it of that MIX. */
        private static int weekHarmWith(Town town, int thing, int mix) {
            int sum = 0;
            for (int other = 0; other < town.thingCount(); other++) {
                int harm = other == thing ? 0 : town.harmOfPair(thing, other);
                if (harm != 0) {
                    sum += harm * daysAlike(town, thing, mix, other);
                }
            }
            return sum;
        }

        private static int daysAlike(Town town, int thing, int mix, int other) {
            int days = 0;
            for (int weekday = 0; weekday < Town.WEEK; weekday++) {
                int set = town.missingOn(weekday);
                if (town.thingAt(thing).lookOf(mix, set) == town.thingAt(other).lookWithout(set)) {
                    days++;
                }
            }
            return days;
        }

        int countDyePairs(Town town) {
            int pairs = 0;
            for (int a = 1; a <= Town.ALL_COLOURS; a++) {
                for (int b = a + 1; b <= Town.ALL_COLOURS; b++) {
                    if (areApart(town, a, b)) {
                        pairs++;
                    }
                }
            }
            return pairs;
        }

        int dyeOfFirstRow(Town town, int n, int k) {
            boolean isFilled = fillDyes(town, n, 0);
            return isFilled && k >= 0 && k < MOST_DYES ? dyeRow[k] : NONE;
        }

        private boolean fillDyes(Town town, int n, int filled) {
            if (filled >= n || filled >= MOST_DYES) {
                return true;
            }
            int least = filled == 0 ? 1 : dyeRow[filled - 1] + 1;
            for (int mix = least; mix <= Town.ALL_COLOURS; mix++) {
                if (isApartFromRow(town, mix, filled)) {
                    dyeRow[filled] = mix;
                    if (fillDyes(town, n, filled + 1)) {
                        return true;
                    }
                }
            }
            return false;
        }

        private boolean isApartFromRow(Town town, int mix, int filled) {
            for (int i = 0; i < filled && i < MOST_DYES; i++) {
                if (!areApart(town, dyeRow[i], mix)) {
                    return false;
                }
            }
            return true;
        }

        private static boolean areApart(Town town, int a, int b) {
            for (int weekday = 0; weekday < Town.WEEK; weekday++) {
                int set = town.missingOn(weekday);
                if ((a & ~set) == (b & ~set)) {
                    return false;
                }
            }
            return true;
        }

        int bestHiding(Town town, int what) {
            int best = NONE;
            int most = NONE;
            for (int d = 0; d < Town.WEEK; d++) {
                for (int i = 0; i < town.thingCount(); i++) {
                    int others = Integer.bitCount(alikeWith(town, i, d)) - 1;
                    if (others > most) {
                        best = 7 * d + i;
                        most = others;
                    }
                }
            }
            return what == 0 ? best : most;
        }

        int weekdaysSeen(Town town, Rows rows, int row, int from) {
            int bits = 0;
            for (int weekday = 0; weekday < Town.WEEK; weekday++) {
                lookAt(town, town.missingOn(weekday));
                boolean isSo = true;
                for (int i = 0; i < town.thingCount(); i++) {
                    isSo = isSo && rows.itemAt(row, from + i) == looksThen[i];
                }
                if (isSo) {
                    bits |= 1 << weekday;
                }
            }
            return bits;
        }

        int countOrders(Town town, int d) {
            countEndings(town, d);
            int orders = 0;
            for (int first = 0; first < town.thingCount(); first++) {
                orders += endings[placeOfEnding(1 << first, first)];
            }
            return town.thingCount() == 0 ? 1 : orders;
        }

        int placeOfFirstOrder(Town town, int d, int k) {
            countEndings(town, d);
            if (k >= town.thingCount()) {
                return NONE;
            }
            int put = 0;
            int last = NONE;
            for (int place = 0; place <= k; place++) {
                last = nextOnShelf(town, put, last);
                if (last == NONE) {
                    return NONE;
                }
                put |= 1 << last;
            }
            return last;
        }

        /** For each set of THINGS that are put, and the last of them: in how many ways the rest can follow. */
        private void countEndings(Town town, int d) {
            lookAt(town, town.missingIn(d));
            int all = (1 << town.thingCount()) - 1;
            // A larger set is counted first, as each builds on those with one THING more.
            for (int put = all; put > 0; put--) {
                for (int last = 0; last < town.thingCount(); last++) {
                    endings[placeOfEnding(put, last)] = put == all ? 1 : waysOn(town, put, last);
                }
            }
        }

        private int waysOn(Town town, int put, int last) {
            int ways = 0;
            for (int next = 0; next < town.thingCount(); next++) {
                if (canFollow(put, last, next)) {
                    ways += endings[placeOfEnding(put | 1 << next, next)];
                }
            }
            return ways;
        }

        private int nextOnShelf(Town town, int put, int last) {
            for (int next = 0; next < town.thingCount(); next++) {
                if (canFollow(put, last, next) && endings[placeOfEnding(put | 1 << next, next)] > 0) {
                    return next;
                }
            }
            return NONE;
        }

        private boolean canFollow(int put, int last, int next) {
            if ((put >> next & 1) != 0) {
                return false;
            }
            return last < 0 || looksThen[last] != looksThen[next];
        }

        private static int placeOfEnding(int put, int last) {
            return put * Town.MOST_THINGS + last;
        }

        int countParting(Town town, int d, int e) {
            int pairs = 0;
            for (int a = 0; a < town.thingCount(); a++) {
                for (int b = a + 1; b < town.thingCount(); b++) {
                    if (partsBy(town, a, b, d, e)) {
                        pairs++;
                    }
                }
            }
            return pairs;
        }

        int firstParting(Town town, int d, int e) {
            for (int a = 0; a < town.thingCount(); a++) {
                for (int b = a + 1; b < town.thingCount(); b++) {
                    if (partsBy(town, a, b, d, e)) {
                        return 7 * a + b;
                    }
                }
            }
            return NONE;
        }

        private static boolean partsBy(Town town, int a, int b, int d, int e) {
            return town.areAlike(a, b, town.missingIn(d)) && !town.areAlike(a, b, town.missingIn(e));
        }

        int fewestMissing(Town town, int a, int b) {
            int best = NONE;
            for (int set = 0; set <= Town.ALL_COLOURS; set++) {
                boolean isFewer = best == NONE || Integer.bitCount(set) < Integer.bitCount(best);
                if (isFewer && town.areAlike(a, b, set)) {
                    best = set;
                }
            }
            return best;
        }

        int bestTest(Town town, int d, int lookCost, int shapeCost, int what) {
            lookAt(town, town.missingIn(d));
            int most = -1;
            int least = 0;
            for (int way = 0; way < 4; way++) {
                boolean byLooks = (way & 1) != 0;
                boolean byShapes = (way & 2) != 0;
                int cost = (byLooks ? lookCost : 0) + (byShapes ? shapeCost : 0);
                int told = countTold(town, byLooks, byShapes);
                if (told > most || told == most && cost < least) {
                    most = told;
                    least = cost;
                }
            }
            return what == 0 ? most : least;
        }

        private int countTold(Town town, boolean byLooks, boolean byShapes) {
            int told = 0;
            for (int i = 0; i < town.thingCount(); i++) {
                if (isTold(town, i, byLooks, byShapes)) {
                    told++;
                }
            }
            return told;
        }

        private boolean isTold(Town town, int i, boolean byLooks, boolean byShapes) {
            for (int j = 0; j < town.thingCount(); j++) {
                boolean unlikeLooks = byLooks && looksThen[i] != looksThen[j];
                boolean unlikeShapes = byShapes && town.thingAt(i).shaped() != town.thingAt(j).shaped();
                if (j != i && !unlikeLooks && !unlikeShapes) {
                    return false;
                }
            }
            return true;
        }

        static long likelihood(int n, int k, int what) {
            long above = 0;
            long below = 0;
            for (int misses = 0; misses <= n; misses++) {
                long cases = ways(n, misses) * power(4, n - misses);
                below += cases;
                if (misses >= k) {
                    above += cases;
                }
            }
            long shared = greatestShared(above, below);
            if (shared == 0) {
                return 0;
            }
            return (what == 0 ? above : below) / shared;
        }

        private static long ways(int n, int chosen) {
            long ways = 1;
            for (int i = 1; i <= chosen; i++) {
                ways = ways * (n - chosen + i) / i;
            }
            return ways;
        }

        private static long power(long base, int exponent) {
            long power = 1;
            for (int i = 0; i < exponent; i++) {
                power *= base;
            }
            return power;
        }

        private static long greatestShared(long a, long b) {
            long larger = a;
            long rest = b;
            // Euclid's steps for numbers below 5 to the 12th are far fewer than 100.
            for (int i = 0; i < 100 && rest != 0; i++) {
                long next = larger % rest;
                larger = rest;
                rest = next;
            }
            return larger;
        }

        int drawnYear(Town town, int n, int seed, int what) {
            long x = seed;
            int sum = 0;
            int without = 0;
            for (int i = 0; i < n; i++) {
                x = x * 16807 % 2147483647;
                int harm = town.harmWithout(Town.setOf((int) (x % 6)));
                sum += harm;
                if (harm == 0) {
                    without++;
                }
            }
            return what == 0 ? sum : without;
        }
    }
}
