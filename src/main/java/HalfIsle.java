import java.util.NoSuchElementException;

/** An island that people have for one half of the year and birds for the other one. */
public final class HalfIsle {
    public static final int NONE = -1;

    private static final int ROOMS = 6;
    private static final int EVERY_ROOM = 63;
    private static final int SIDES = 2;
    private static final int MOST_ITEMS = 12;
    private static final int MOST_PLACES = 12;
    private static final int MOST_HANDS = 20;
    private static final int MOST_WORN = 99;
    private static final int MOST_SOIL = 99;
    private static final int MOST_VALUE = 99;
    private static final int MOST_STORM = 100;
    private static final int MOST_OWED = 9999;
    private static final int MOST_DAY = 9999;
    private static final int MOST_TOLD_DAY = 999;
    private static final int HALF_YEAR = 182;
    private static final int YEAR = 364;
    private static final int MENDED_BY = 5;
    private static final int STORM_WEARS = 2;

    private static final int MOST_DAYS = 400;
    private static final int MOST_ROUND = 60;
    private static final int MOST_VISITS = 60;
    private static final int MOST_SAVED = 99;
    private static final int MOST_CALM = 6;
    private static final int MOST_LEAVING = 999;
    private static final int MOST_SEATS = 99;
    private static final int MOST_BOATS = 9;
    private static final int SPAN_SEEDS = 6;
    private static final int ODDS = 10000;

    private static final int MOST_TAPE = 400;
    private static final int MOST_TRACES = 40;
    private static final int MOST_TEXTS = 12;
    private static final int DEED_LINES = 14;
    private static final int LAW_LINES = 12;
    private static final int MOST_LAW = 20;
    private static final int MOST_NUMBER = 999;
    private static final int MOST_DEEP = 6;
    private static final int MOST_WAITING = 32;
    private static final int LOG_ROWS = 60;
    private static final int LOG_CELLS = 4;
    private static final int MOST_REMEMBERED = 12;

    /** Codes of THE LAW: a number stands for itself, all others are below 0. */
    private static final int CODE_ITEM = -1;
    private static final int CODE_ROOM = -2;
    private static final int CODE_WORN = -3;
    private static final int CODE_VALUE = -4;
    private static final int CODE_SIDE = -5;
    private static final int CODE_DAY = -6;
    private static final int CODE_SOILED = -7;
    private static final int CODE_OWN = -8;
    private static final int CODE_HOME = -9;
    private static final int CODE_SPLIT = -10;
    private static final int CODE_LESS = -11;
    private static final int CODE_MORE = -12;
    /** What joins, the closer one the higher: so it is told which of those that wait goes first. */
    private static final int CODE_NOT = -13;
    private static final int CODE_AND = -14;
    private static final int CODE_OR = -15;
    private static final int CODE_OPEN = -16;

    private final int[] tape = new int[MOST_TAPE];
    private int taped = 0;
    private final DeedReader deedReader = new DeedReader();
    private final LawReader lawReader = new LawReader();
    private int wrongByte = NONE;

    private final Island now = new Island();
    private final Island scratch = new Island();
    private Law rule = new Law();
    private Law spareRule = new Law();

    private boolean imaged = false;
    private final Island imageIsland = new Island();
    private final Law imageRule = new Law();

    private final Island[] past = new Island[MOST_REMEMBERED];
    private int newest = 0;
    private int remembered = 0;

    private final int[] weights = new int[MOST_ITEMS];
    private final Sums sums = new Sums();
    private final Sums valueSums = new Sums();
    private final int[] order = new int[ROOMS];

    public HalfIsle() {
        for (int i = 0; i < past.length; i++) {
            past[i] = new Island();
        }
    }

    // ---- the tape and the texts

    public int feed(int a, int b, int c, int d, int e) {
        if (taped > MOST_TAPE - 20) {
            return NONE;
        }
        tapeNumber(a);
        tapeNumber(b);
        tapeNumber(c);
        tapeNumber(d);
        tapeNumber(e);
        return taped;
    }

    public boolean end(int n) {
        if (n < 0 || n > taped) {
            return false;
        }
        taped = n;
        return true;
    }

    public int deed() throws IllegalArgumentException, UnsupportedOperationException {
        scratch.copyFrom(now);
        wrongByte = deedReader.readText(tape, usedTape(), scratch);
        if (wrongByte != NONE) {
            throw new IllegalArgumentException("the text is wrong");
        }
        if (now.texts >= MOST_TEXTS) {
            throw new UnsupportedOperationException("there are as many texts as may be");
        }
        now.copyFrom(scratch);
        now.texts++;
        remembered = 0;
        return now.texts;
    }

    public int law() throws IllegalArgumentException {
        wrongByte = lawReader.readText(tape, usedTape(), spareRule);
        if (wrongByte != NONE) {
            throw new IllegalArgumentException("the text is wrong");
        }
        Law before = rule;
        rule = spareRule;
        spareRule = before;
        remembered = 0;
        return rule.lines;
    }

    public int fault() {
        return wrongByte;
    }

    // ---- what is

    public int item(int item, int what) throws IndexOutOfBoundsException, NoSuchElementException {
        checkItem(item);
        checkWhat(what, 9);
        switch (what) {
            case 0: return at(now.room, item);
            case 1: return at(now.home, item);
            case 2: return at(now.worn, item);
            case 3: return at(now.value, item);
            case 4: return at(now.owner, item);
            case 5: return at(now.foundRoom, item);
            case 6: return at(now.foundWorn, item);
            case 7: return now.isMissing(item) ? 1 : 0;
            case 8: return now.worseBy(item);
            default: return now.workOf(item);
        }
    }

    public int room(int room, int what) throws IndexOutOfBoundsException, NoSuchElementException {
        checkRoom(room);
        checkWhat(what, 3);
        switch (what) {
            case 0: return at(now.soil, room);
            case 1: return at(now.places, room);
            case 2: return now.itemsWith(now.room, room);
            default: return now.itemsWith(now.home, room);
        }
    }

    public int side(int side, int what) throws IndexOutOfBoundsException, NoSuchElementException {
        checkSide(side);
        checkWhat(what, 4);
        switch (what) {
            case 0: return at(now.hands, side);
            case 1: return at(now.owes, side);
            case 2: return now.itemsWith(now.owner, side);
            case 3: return now.needsOf(side);
            default: return now.latestOf(side);
        }
    }

    public int does(int item, int what) throws IndexOutOfBoundsException, NoSuchElementException {
        checkItem(item);
        checkWhat(what, 2);
        rule.tell(now, item);
        return at(rule.told, what);
    }

    public int steps(int room, int other) throws IndexOutOfBoundsException {
        checkRoom(room);
        checkRoom(other);
        return stepsBetween(room, other);
    }

    // ---- acts

    public int carry(int item, int room) throws IndexOutOfBoundsException {
        checkItem(item);
        checkRoom(room);
        remember();
        int from = at(now.room, item);
        put(now.room, item, room);
        return from;
    }

    public int mend(int item) throws IndexOutOfBoundsException {
        checkItem(item);
        remember();
        int worn = Math.max(0, at(now.worn, item) - MENDED_BY);
        put(now.worn, item, worn);
        return worn;
    }

    public int sweep(int room) throws IndexOutOfBoundsException {
        checkRoom(room);
        remember();
        int soil = at(now.soil, room);
        put(now.soil, room, 0);
        return soil;
    }

    public int pay(int side, int n) throws IndexOutOfBoundsException, IllegalArgumentException {
        checkSide(side);
        int owed = at(now.owes, side);
        checkNumber(n, 1, owed);
        remember();
        put(now.owes, side, owed - n);
        return owed - n;
    }

    public int take() {
        remember();
        int gone = Integer.bitCount(now.missingOnes());
        now.takeInventory();
        return gone;
    }

    public int days(int n) throws IllegalArgumentException {
        checkNumber(n, 1, MOST_DAYS);
        remember();
        int equinoxes = 0;
        for (int i = 0; i < n; i++) {
            if (now.passDay(rule, true)) {
                equinoxes++;
            }
        }
        return equinoxes;
    }

    // ---- what is ahead

    public int ahead(int item, int n, int what)
            throws IndexOutOfBoundsException, IllegalArgumentException, NoSuchElementException {
        checkItem(item);
        checkNumber(n, 0, MOST_DAYS);
        checkWhat(what, 2);
        goAhead(n);
        switch (what) {
            case 0: return at(scratch.room, item);
            case 1: return at(scratch.worn, item);
            default: return scratch.isMissing(item) ? 1 : 0;
        }
    }

    public int missing() {
        return now.missingOnes();
    }

    public int worse() {
        int set = 0;
        for (int i = 0; i < now.items; i++) {
            if (now.worseBy(i) > 0) {
                set |= 1 << i;
            }
        }
        return set;
    }

    public int mislaid() {
        int set = 0;
        for (int i = 0; i < now.items; i++) {
            if (at(now.room, i) != at(now.home, i)) {
                set |= 1 << i;
            }
        }
        return set;
    }

    public int work() {
        return now.workOfAll();
    }

    public int first(boolean item) {
        scratch.copyFrom(now);
        for (int n = 0; n <= MOST_DAYS; n++) {
            int set = scratch.missingOnes();
            if (set != 0) {
                return item ? lowest(set) : n;
            }
            scratch.passDay(rule, false);
        }
        return NONE;
    }

    public int round() {
        scratch.copyFrom(now);
        for (int n = 1; n <= MOST_ROUND; n++) {
            scratch.passDay(rule, false);
            if (sameRooms()) {
                return n;
            }
        }
        return NONE;
    }

    public int worst(int n) throws IllegalArgumentException {
        checkNumber(n, 0, MOST_DAYS);
        goAhead(n);
        int worst = NONE;
        int most = NONE;
        for (int i = 0; i < scratch.items; i++) {
            if (at(scratch.worn, i) > most) {
                most = at(scratch.worn, i);
                worst = i;
            }
        }
        return worst;
    }

    // ---- what is best put back, and where to look

    public int saves(int work, boolean much) throws IllegalArgumentException {
        checkNumber(work, 0, MOST_SAVED);
        int outside = 0;
        for (int i = 0; i < MOST_ITEMS; i++) {
            int itsWork = i < now.items ? now.workOf(i) : 0;
            put(weights, i, itsWork);
            if (itsWork == 0) {
                outside |= 1 << i;
            }
        }
        sums.fill(weights);
        valueSums.fill(now.value);
        int best = 0;
        int most = 0;
        for (int set = 1; set < 1 << now.items; set++) {
            if ((set & outside) == 0 && sums.of(set) <= work && valueSums.of(set) > most) {
                best = set;
                most = valueSums.of(set);
            }
        }
        return much ? most : best;
    }

    public int search(int k) {
        if (k < 0 || k >= ROOMS) {
            return NONE;
        }
        orderRooms();
        return at(order, k);
    }

    public int costs() {
        orderRooms();
        int paid = 0;
        int all = 0;
        for (int i = 0; i < ROOMS; i++) {
            int room = at(order, i);
            paid += lookCost(room);
            all += likelihood(room) * paid;
        }
        return all;
    }

    public int calm(int n, int k) throws IllegalArgumentException {
        checkNumber(n, 0, MOST_CALM);
        long fits = 0;
        long ways = 1;
        for (int calm = 0; calm <= n; calm++) {
            if (calm >= k) {
                fits += ways * power(MOST_STORM - now.storm, calm) * power(now.storm, n - calm);
            }
            ways = ways * (n - calm) / (calm + 1);
        }
        long whole = power(MOST_STORM, n);
        return whole > 0 ? (int) (fits * ODDS / whole) : 0;
    }

    public int boats(int n, int seats, int boats) throws IllegalArgumentException {
        checkNumber(n, 0, MOST_LEAVING);
        checkNumber(seats, 1, MOST_SEATS);
        checkNumber(boats, 1, MOST_BOATS);
        return roundedUp(n, seats * boats);
    }

    public int rests() {
        int all = now.workOfAll();
        int gone = now.missingValue();
        int set = 0;
        for (int choices = 0; choices < 4; choices++) {
            int mine = choices >> 1;
            int yours = choices & 1;
            boolean mineRests = restCost(mine, yours, all, gone) <= restCost(1 - mine, yours, all, gone);
            boolean yoursRests = restCost(yours, mine, all, gone) <= restCost(1 - yours, mine, all, gone);
            if (mineRests && yoursRests) {
                set |= 1 << choices;
            }
        }
        return set;
    }

    // ---- what is due, and what meets

    public int due() {
        return now.owedMore();
    }

    public int lighten(int n) throws IllegalArgumentException {
        checkNumber(n, 0, MOST_OWED);
        for (int i = 0; i < MOST_ITEMS; i++) {
            put(weights, i, i < now.items ? now.owedFor(i) : 0);
        }
        sums.fill(weights);
        int tooMuch = now.owedMore() - n;
        int best = NONE;
        int fewest = MOST_ITEMS + 1;
        for (int set = 0; set < 1 << now.items; set++) {
            if (sums.of(set) >= tooMuch && Integer.bitCount(set) < fewest) {
                best = set;
                fewest = Integer.bitCount(set);
            }
        }
        return best;
    }

    public int wearing(int item) throws IndexOutOfBoundsException {
        checkItem(item);
        goAhead(now.daysLeft());
        return at(scratch.worn, item) - at(now.worn, item);
    }

    public int meets(int item, int other) throws IndexOutOfBoundsException, IllegalArgumentException {
        checkItem(item);
        checkItem(other);
        if (item == other) {
            throw new IllegalArgumentException("both are one");
        }
        return firstMeeting(item, other);
    }

    public int visits(int item, int n) throws IndexOutOfBoundsException, IllegalArgumentException {
        checkItem(item);
        checkNumber(n, 0, MOST_VISITS);
        scratch.copyFrom(now);
        int set = 1 << at(scratch.room, item);
        for (int i = 0; i < n; i++) {
            scratch.passDay(rule, false);
            set |= 1 << at(scratch.room, item);
        }
        return set;
    }

    public int crowd(int n) throws IllegalArgumentException {
        checkNumber(n, 0, MOST_DAYS);
        goAhead(n);
        int most = 0;
        for (int room = 0; room < ROOMS; room++) {
            most = Math.max(most, Integer.bitCount(scratch.itemsWith(scratch.room, room)));
        }
        return most;
    }

    public int stays(int item) throws IndexOutOfBoundsException {
        checkItem(item);
        scratch.copyFrom(now);
        for (int n = 1; n <= MOST_DAYS; n++) {
            scratch.passDay(rule, false);
            if (at(scratch.room, item) != at(now.room, item)) {
                return n;
            }
        }
        return NONE;
    }

    public int parted(boolean part) {
        valueSums.fill(now.value);
        int all = total(now.value, now.items);
        int best = 0;
        int least = all;
        for (int set = 1; set < 1 << now.items; set++) {
            int apart = Math.abs(all - 2 * valueSums.of(set));
            if (apart < least) {
                best = set;
                least = apart;
            }
        }
        return part ? best : least;
    }

    // ---- rooms

    public int clash() {
        int set = 0;
        for (int room = 0; room < ROOMS; room++) {
            if (Integer.bitCount(now.itemsWith(now.home, room)) > at(now.places, room)) {
                set |= 1 << room;
            }
        }
        return set;
    }

    public int full() {
        int set = 0;
        for (int room = 0; room < ROOMS; room++) {
            if (Integer.bitCount(now.itemsWith(now.room, room)) >= at(now.places, room)) {
                set |= 1 << room;
            }
        }
        return set;
    }

    public int settles() {
        return at(now.owes, 0) - at(now.owes, 1);
    }

    public int richest() {
        int richest = 0;
        int most = 0;
        for (int room = 0; room < ROOMS; room++) {
            int value = now.valueIn(room);
            if (value > most) {
                richest = room;
                most = value;
            }
        }
        return richest;
    }

    // ---- traces

    public int traces(boolean sure) throws IllegalArgumentException {
        int told = readTraces();
        if (!sure) {
            return waysThrough(told, 0);
        }
        if (waysThrough(told, 0) == 0) {
            return 0;
        }
        int set = EVERY_ROOM;
        for (int way = 0; way < ROOMS * ROOMS; way++) {
            if (fits(way, told)) {
                set &= roomsOf(way);
            }
        }
        return set;
    }

    public int look() throws IllegalArgumentException {
        int told = readTraces();
        int ways = waysThrough(told, 0);
        if (ways < 2) {
            return NONE;
        }
        int best = NONE;
        int least = ways + 1;
        for (int room = 0; room < ROOMS; room++) {
            int there = waysThrough(told, 1 << room);
            int greater = Math.max(there, ways - there);
            if (greater < least) {
                best = room;
                least = greater;
            }
        }
        return best;
    }

    // ---- likeness, trials, the log

    public int like() {
        if (!imaged) {
            return NONE;
        }
        int alike = 0;
        for (int i = 0; i < now.items && i < imageIsland.items; i++) {
            if (at(now.room, i) == at(imageIsland.room, i) && at(now.worn, i) == at(imageIsland.worn, i)) {
                alike++;
            }
        }
        return alike;
    }

    public int trial(int n, boolean owed) throws IllegalArgumentException {
        checkNumber(n, 0, MOST_DAYS);
        tryDays(n, now.seed);
        return owed ? total(scratch.owes, SIDES) : total(scratch.worn, scratch.items);
    }

    public int span(int n, boolean most) throws IllegalArgumentException {
        checkNumber(n, 0, MOST_DAYS);
        tryDays(n, 1);
        int bound = total(scratch.worn, scratch.items);
        for (int seed = 2; seed <= SPAN_SEEDS; seed++) {
            tryDays(n, seed);
            int worn = total(scratch.worn, scratch.items);
            bound = most ? Math.max(bound, worn) : Math.min(bound, worn);
        }
        return bound;
    }

    public int led(int side, boolean owed) throws IndexOutOfBoundsException {
        checkSide(side);
        int often = 0;
        int more = 0;
        for (int ago = 0; ago < now.leavings.count; ago++) {
            if (now.leavings.cell(ago, 1) == side) {
                often++;
                more += now.leavings.cell(ago, 3);
            }
        }
        return owed ? more : often;
    }

    public int log(int ago, int what) throws NoSuchElementException {
        checkWhat(what, LOG_CELLS - 1);
        if (ago < 0 || ago >= now.leavings.count) {
            return NONE;
        }
        return now.leavings.cell(ago, what);
    }

    public int seed(int n) {
        int before = now.seed;
        now.seed = n;
        return before;
    }

    // ---- undone, and the image

    public boolean undo() {
        if (remembered <= 0 || newest < 0 || newest >= past.length) {
            return false;
        }
        now.copyFrom(past[newest]);
        newest = newest == 0 ? MOST_REMEMBERED - 1 : newest - 1;
        remembered--;
        return true;
    }

    public void image() {
        imageIsland.copyFrom(now);
        imageRule.copyFrom(rule);
        imaged = true;
    }

    public boolean back() {
        if (!imaged) {
            return false;
        }
        now.copyFrom(imageIsland);
        rule.copyFrom(imageRule);
        remembered = 0;
        return true;
    }

    public int count(int what) {
        switch (what) {
            case 0: return now.items;
            case 1: return now.texts;
            case 2: return rule.lines;
            case 3: return now.day;
            case 4: return now.there();
            case 5: return now.storm;
            case 6: return total(now.soil, ROOMS);
            case 7: return now.soiled;
            case 8: return total(now.worn, now.items);
            case 9: return total(now.value, now.items);
            case 10: return now.leavings.count;
            case 11: return remembered;
            default: return NONE;
        }
    }

    // ---- rows

    /** Every index is looked at here; outside of a row there is 0. */
    private static int at(int[] row, int i) {
        return row != null && i >= 0 && i < row.length ? row[i] : 0;
    }

    private static void put(int[] row, int i, int x) {
        if (row != null && i >= 0 && i < row.length) {
            row[i] = x;
        }
    }

    private static void copyRow(int[] from, int[] to) {
        System.arraycopy(from, 0, to, 0, Math.min(from.length, to.length));
    }

    private static int total(int[] row, int n) {
        int sum = 0;
        for (int i = 0; i < n; i++) {
            sum += at(row, i);
        }
        return sum;
    }

    // ---- checks

    private void checkItem(int item) {
        if (item < 0 || item >= now.items) {
            throw new IndexOutOfBoundsException("no such ITEM");
        }
    }

    private static void checkRoom(int room) {
        if (room < 0 || room >= ROOMS) {
            throw new IndexOutOfBoundsException("no such ROOM");
        }
    }

    private static void checkSide(int side) {
        if (side < 0 || side >= SIDES) {
            throw new IndexOutOfBoundsException("no such SIDE");
        }
    }

    private static void checkNumber(int n, int least, int most) {
        if (n < least || n > most) {
            throw new IllegalArgumentException("the number is none");
        }
    }

    private static void checkWhat(int what, int most) {
        if (what < 0 || what > most) {
            throw new NoSuchElementException("another what");
        }
    }

    // ---- helpers of the calls

    private void tapeNumber(int number) {
        for (int shift = 24; shift >= 0; shift -= 8) {
            put(tape, taped, number >>> shift & 255);
            taped++;
        }
    }

    private int usedTape() {
        int length = taped;
        taped = 0;
        return length;
    }

    private void remember() {
        newest = (newest + 1) % MOST_REMEMBERED;
        if (newest >= 0 && newest < past.length) {
            Island before = past[newest];
            if (before != null) {
                before.copyFrom(now);
            }
        }
        remembered = Math.min(MOST_REMEMBERED, remembered + 1);
    }

    private void goAhead(int n) {
        scratch.copyFrom(now);
        for (int i = 0; i < n; i++) {
            scratch.passDay(rule, false);
        }
    }

    private void tryDays(int n, int seed) {
        scratch.copyFrom(now);
        scratch.seed = seed;
        for (int i = 0; i < n; i++) {
            scratch.passDay(rule, true);
        }
    }

    private boolean sameRooms() {
        boolean same = true;
        for (int i = 0; i < now.items; i++) {
            same = same && at(scratch.room, i) == at(now.room, i);
        }
        return same;
    }

    private int firstMeeting(int one, int two) {
        scratch.copyFrom(now);
        for (int n = 0; n <= MOST_DAYS; n++) {
            if (at(scratch.room, one) == at(scratch.room, two)) {
                return n;
            }
            scratch.passDay(rule, false);
        }
        return NONE;
    }

    private static int lowest(int set) {
        for (int i = 0; i < MOST_ITEMS; i++) {
            if ((set >> i & 1) != 0) {
                return i;
            }
        }
        return NONE;
    }

    private static int stepsBetween(int room, int other) {
        int apart = Math.abs(room - other);
        return Math.min(apart, ROOMS - apart);
    }

    private static int roundedUp(int n, int by) {
        return by > 0 ? (n + by - 1) / by : 0;
    }

    private static long power(int base, int n) {
        long product = 1;
        for (int i = 0; i < n; i++) {
            product *= base;
        }
        return product;
    }

    /** What a SIDE's choice (0 it mends, 1 it leaves it) costs it with the other one's. */
    private static int restCost(int own, int others, int all, int gone) {
        if (own == 0) {
            return others == 0 ? roundedUp(all, 2) : all;
        }
        return others == 0 ? 0 : gone;
    }

    private int likelihood(int room) {
        return Integer.bitCount(now.itemsWith(now.room, room)) + 1;
    }

    private int lookCost(int room) {
        return at(now.soil, room) + 1;
    }

    /**
     * The order that costs the least is the one by cost for each part of likelihood: two neighbours
     * out of that order would always cost less the other way round. Like ones go by number.
     */
    private void orderRooms() {
        for (int room = 0; room < ROOMS; room++) {
            int place = room;
            while (place > 0 && goesAhead(room, at(order, place - 1))) {
                put(order, place, at(order, place - 1));
                place--;
            }
            put(order, place, room);
        }
    }

    private boolean goesAhead(int room, int other) {
        return lookCost(room) * likelihood(other) < lookCost(other) * likelihood(room);
    }

    /** The TAPE's traces: ROOMS where it was as the low bits, and where it was not 6 bits higher. */
    private int readTraces() {
        int length = usedTape();
        if (length > MOST_TRACES || length % 2 != 0) {
            throw new IllegalArgumentException("the TAPE is no traces");
        }
        int told = 0;
        for (int i = 0; i + 1 < length; i += 2) {
            int room = at(tape, i);
            int there = at(tape, i + 1);
            if (room >= ROOMS || there > 1) {
                throw new IllegalArgumentException("the TAPE is no traces");
            }
            told |= 1 << (there == 1 ? room : room + ROOMS);
        }
        return told;
    }

    /** A way is 6 times the ROOM from which it goes and the ROOM to which it goes. */
    private static int roomsOf(int way) {
        int to = way % ROOMS;
        int room = way / ROOMS;
        int set = 1 << room;
        for (int i = 0; i < ROOMS && room != to; i++) {
            room = (room + 1) % ROOMS;
            set |= 1 << room;
        }
        return set;
    }

    private static boolean fits(int way, int told) {
        int there = told & EVERY_ROOM;
        int not = told >> ROOMS & EVERY_ROOM;
        int rooms = roomsOf(way);
        return (rooms & there) == there && (rooms & not) == 0;
    }

    /** How many ways fit that have all of these ROOMS, too. */
    private static int waysThrough(int told, int rooms) {
        int ways = 0;
        for (int way = 0; way < ROOMS * ROOMS; way++) {
            if (fits(way, told) && (roomsOf(way) & rooms) == rooms) {
                ways++;
            }
        }
        return ways;
    }

    /** All that acts change: ITEMS, ROOMS, SIDES, the DAY, SEED and THE LOG. */
    private static final class Island {
        private final int[] home = new int[MOST_ITEMS];
        private final int[] room = new int[MOST_ITEMS];
        private final int[] worn = new int[MOST_ITEMS];
        private final int[] value = new int[MOST_ITEMS];
        private final int[] owner = new int[MOST_ITEMS];
        private final int[] foundRoom = new int[MOST_ITEMS];
        private final int[] foundWorn = new int[MOST_ITEMS];
        private final int[] soil = new int[ROOMS];
        private final int[] places = {MOST_PLACES, MOST_PLACES, MOST_PLACES, MOST_PLACES, MOST_PLACES, MOST_PLACES};
        private final int[] hands = {1, 1};
        private final int[] owes = new int[SIDES];
        private final Leavings leavings = new Leavings();
        private int items = 0;
        private int texts = 0;
        private int storm = 0;
        private int day = 0;
        private int soiled = 0;
        private int seed = 1;

        void copyFrom(Island from) {
            if (from == null) {
                return;
            }
            copyRow(from.home, home);
            copyRow(from.room, room);
            copyRow(from.worn, worn);
            copyRow(from.value, value);
            copyRow(from.owner, owner);
            copyRow(from.foundRoom, foundRoom);
            copyRow(from.foundWorn, foundWorn);
            copyRow(from.soil, soil);
            copyRow(from.places, places);
            copyRow(from.hands, hands);
            copyRow(from.owes, owes);
            leavings.copyFrom(from.leavings);
            items = from.items;
            texts = from.texts;
            storm = from.storm;
            day = from.day;
            soiled = from.soiled;
            seed = from.seed;
        }

        void addItem(int itsValue, int itsHome, int itsOwner, int itsRoom) {
            put(value, items, itsValue);
            put(home, items, itsHome);
            put(owner, items, itsOwner);
            put(room, items, itsRoom);
            put(worn, items, 0);
            put(foundRoom, items, itsRoom);
            put(foundWorn, items, 0);
            items++;
        }

        int there() {
            return day % YEAR < HALF_YEAR ? 0 : 1;
        }

        /** DAYS up to the next EQUINOX, that one too. */
        int daysLeft() {
            return HALF_YEAR - day % HALF_YEAR;
        }

        boolean isMissing(int item) {
            return at(room, item) != at(foundRoom, item);
        }

        int worseBy(int item) {
            return Math.max(0, at(worn, item) - at(foundWorn, item));
        }

        int workOf(int item) {
            return stepsBetween(at(room, item), at(foundRoom, item)) + roundedUp(worseBy(item), 5);
        }

        int workOfAll() {
            int sum = 0;
            for (int i = 0; i < items; i++) {
                sum += workOf(i);
            }
            for (int r = 0; r < ROOMS; r++) {
                sum += roundedUp(at(soil, r), 10);
            }
            return sum;
        }

        int needsOf(int side) {
            int all = workOfAll();
            if (all == 0) {
                return 0;
            }
            int those = at(hands, side);
            return those > 0 ? roundedUp(all, those) : NONE;
        }

        int latestOf(int side) {
            int needs = needsOf(side);
            int left = daysLeft();
            return needs == NONE || needs > left ? NONE : left - needs;
        }

        /** ITEMS whose number in the row is this one, as bits. */
        int itemsWith(int[] row, int number) {
            int set = 0;
            for (int i = 0; i < items; i++) {
                if (at(row, i) == number) {
                    set |= 1 << i;
                }
            }
            return set;
        }

        int missingOnes() {
            int set = 0;
            for (int i = 0; i < items; i++) {
                if (isMissing(i)) {
                    set |= 1 << i;
                }
            }
            return set;
        }

        int missingValue() {
            int sum = 0;
            for (int i = 0; i < items; i++) {
                if (isMissing(i)) {
                    sum += at(value, i);
                }
            }
            return sum;
        }

        int valueIn(int r) {
            int sum = 0;
            for (int i = 0; i < items; i++) {
                if (at(room, i) == r) {
                    sum += at(value, i);
                }
            }
            return sum;
        }

        int owedFor(int item) {
            return (isMissing(item) ? at(value, item) : 0) + worseBy(item);
        }

        int owedMore() {
            int sum = Math.max(0, total(soil, ROOMS) - soiled);
            for (int i = 0; i < items; i++) {
                sum += owedFor(i);
            }
            return sum;
        }

        void takeInventory() {
            copyRow(room, foundRoom);
            copyRow(worn, foundWorn);
            soiled = total(soil, ROOMS);
        }

        /** One DAY; whether it was an EQUINOX. */
        boolean passDay(Law rule, boolean storms) {
            for (int i = 0; i < items; i++) {
                passItem(rule, i);
            }
            if (storms) {
                passWeather();
            }
            boolean leaves = daysLeft() == 1;
            if (leaves) {
                leave();
            }
            day = Math.min(MOST_DAY, day + 1);
            return leaves;
        }

        private void passItem(Law rule, int item) {
            rule.tell(this, item);
            int from = at(room, item);
            put(worn, item, Math.min(MOST_WORN, at(worn, item) + at(rule.told, 0)));
            put(soil, from, Math.min(MOST_SOIL, at(soil, from) + at(rule.told, 2)));
            put(room, item, (from + at(rule.told, 1)) % ROOMS);
        }

        private void passWeather() {
            if (draw() % 100 >= storm) {
                return;
            }
            int where = draw() % ROOMS;
            for (int i = 0; i < items; i++) {
                if (at(room, i) == where) {
                    put(worn, i, Math.min(MOST_WORN, at(worn, i) + STORM_WEARS));
                }
            }
        }

        private int draw() {
            seed = 1103515245 * seed + 12345;
            return seed >>> 16 & 32767;
        }

        private void leave() {
            int side = there();
            int more = owedMore();
            leavings.add(day, side, Integer.bitCount(missingOnes()), more);
            put(owes, side, Math.min(MOST_OWED, at(owes, side) + more));
            takeInventory();
        }
    }

    /** THE LOG: rows of four cells that are used round and round. */
    private static final class Leavings {
        private final int[] cells = new int[LOG_ROWS * LOG_CELLS];
        private int latest = 0;
        private int count = 0;

        void copyFrom(Leavings from) {
            copyRow(from.cells, cells);
            latest = from.latest;
            count = from.count;
        }

        void add(int day, int side, int gone, int more) {
            latest = (latest + 1) % LOG_ROWS;
            count = Math.min(LOG_ROWS, count + 1);
            put(cells, latest * LOG_CELLS, day);
            put(cells, latest * LOG_CELLS + 1, side);
            put(cells, latest * LOG_CELLS + 2, gone);
            put(cells, latest * LOG_CELLS + 3, more);
        }

        int cell(int ago, int what) {
            int row = Math.floorMod(latest - ago, LOG_ROWS);
            return at(cells, row * LOG_CELLS + what);
        }
    }

    /** How much each set of ITEMS weighs, by the sums of its two halves. */
    private static final class Sums {
        private static final int HALF = 6;
        private final int[] low = new int[1 << HALF];
        private final int[] high = new int[1 << HALF];

        void fill(int[] weights) {
            fillHalf(low, weights, 0);
            fillHalf(high, weights, HALF);
        }

        private static void fillHalf(int[] half, int[] weights, int from) {
            for (int bit = 0; bit < HALF; bit++) {
                for (int set = 0; set < 1 << bit; set++) {
                    put(half, set + (1 << bit), at(half, set) + at(weights, from + bit));
                }
            }
        }

        int of(int set) {
            return at(low, set & 63) + at(high, set >> HALF & 63);
        }
    }

    /** THE LAW: of each LINE what it is about, its number, and the codes of what it holds if. */
    private static final class Law {
        private final int[] about = new int[LAW_LINES];
        private final int[] amount = new int[LAW_LINES];
        private final int[] begins = new int[LAW_LINES + 1];
        // A thing of the text makes one code at most, but for < and >, which make two; each of these
        // is made up for by the bytes of the word that is ahead of its ATOM: if, and, or. So there
        // are never more codes than bytes.
        private final int[] codes = new int[MOST_TAPE];
        private int used = 0;
        private int lines = NONE;
        /** What the ITEM told last WEARS, SHIFTS and SOILS by. */
        private final int[] told = new int[3];

        void copyFrom(Law from) {
            copyRow(from.about, about);
            copyRow(from.amount, amount);
            copyRow(from.begins, begins);
            copyRow(from.codes, codes);
            used = from.used;
            lines = from.lines;
        }

        void clear() {
            used = 0;
            lines = 0;
        }

        void beginLine(int what, int n) {
            put(about, lines, what);
            put(amount, lines, n);
            put(begins, lines, used);
        }

        void endLine() {
            lines++;
            put(begins, lines, used);
        }

        void emit(int code) {
            if (used >= 0 && used < codes.length) {
                codes[used] = code;
                used++;
            }
        }

        void tell(Island isle, int item) {
            put(told, 0, 0);
            put(told, 1, 0);
            put(told, 2, 0);
            for (int line = 0; line < lines; line++) {
                if (holds(isle, item, at(begins, line), at(begins, line + 1))) {
                    int what = at(about, line);
                    put(told, what, at(told, what) + at(amount, line));
                }
            }
        }

        /** A LINE without a condition holds; else the truths told last are the lowest bits. */
        private boolean holds(Island isle, int item, int from, int to) {
            long truths = 1;
            int left = 0;
            int sum = 0;
            for (int i = from; i >= 0 && i < to && i < codes.length; i++) {
                int code = codes[i];
                if (code >= CODE_SOILED) {
                    sum += code >= 0 ? code : part(isle, item, code);
                } else if (code == CODE_SPLIT) {
                    left = sum;
                    sum = 0;
                } else if (code >= CODE_MORE) {
                    truths = truths << 1 | (atom(isle, item, code, sum - left) ? 1 : 0);
                    sum = 0;
                } else if (code == CODE_NOT) {
                    truths ^= 1;
                } else {
                    long last = truths & 1;
                    long before = truths >>> 1;
                    truths = code == CODE_AND ? before & (last | -2L) : before | last;
                }
            }
            return (truths & 1) != 0;
        }

        private static int part(Island isle, int item, int code) {
            switch (code) {
                case CODE_ITEM: return item;
                case CODE_ROOM: return at(isle.room, item);
                case CODE_WORN: return at(isle.worn, item);
                case CODE_VALUE: return at(isle.value, item);
                case CODE_SIDE: return isle.there();
                case CODE_DAY: return isle.day % HALF_YEAR;
                default: return at(isle.soil, at(isle.room, item));
            }
        }

        /** More: by how much the SUM on the right is more than that on the left. */
        private static boolean atom(Island isle, int item, int code, int more) {
            switch (code) {
                case CODE_OWN: return at(isle.owner, item) == isle.there();
                case CODE_HOME: return at(isle.room, item) == at(isle.home, item);
                case CODE_LESS: return more > 0;
                default: return more < 0;
            }
        }
    }

    /** Goes through a text thing by thing: a word, a number, another byte, or the end. */
    private static final class Reader {
        private final int[] bytes = new int[MOST_TAPE];
        private int length = 0;
        private int begin = 0;
        private int end = 0;
        private int wrong = NONE;

        void open(int[] tape, int n) {
            copyRow(tape, bytes);
            length = Math.min(n, bytes.length);
            end = 0;
            wrong = NONE;
            step();
        }

        /** To the next thing; behind the last one it stands at the text's length. */
        void step() {
            int p = Math.max(0, end);
            while (p < length && p < bytes.length && bytes[p] == ' ') {
                p++;
            }
            begin = p;
            int first = p < length && p < bytes.length ? bytes[p] : NONE;
            boolean letter = first >= 'a' && first <= 'z';
            boolean digit = first >= '0' && first <= '9';
            int least = letter ? 'a' : '0';
            int most = letter ? 'z' : '9';
            while (p < length && p < bytes.length && (p == begin
                    || (letter || digit) && bytes[p] >= least && bytes[p] <= most)) {
                p++;
            }
            end = p;
        }

        boolean isRight() {
            return wrong == NONE;
        }

        boolean isEnd() {
            return begin >= length;
        }

        boolean isNumber() {
            return begin >= 0 && begin < end && begin < bytes.length && bytes[begin] >= '0' && bytes[begin] <= '9';
        }

        boolean isAt(String word) {
            boolean same = end - begin == word.length();
            for (int i = 0; same && i < word.length(); i++) {
                int p = begin + i;
                same = p >= 0 && p < bytes.length && bytes[p] == word.charAt(i);
            }
            return same;
        }

        boolean takes(String word) {
            if (!isAt(word)) {
                return false;
            }
            step();
            return true;
        }

        void needs(String word) {
            if (!takes(word)) {
                refuse();
            }
        }

        /** The first refusal stays, so that what is read behind it does no harm. */
        void refuse() {
            if (wrong == NONE) {
                wrong = begin;
            }
        }

        int number(int least, int most) {
            boolean fits = isNumber() && end - begin <= 3;
            int n = 0;
            for (int p = begin; fits && p >= 0 && p < end && p < bytes.length; p++) {
                n = n * 10 + bytes[p] - '0';
            }
            if (!fits || n < least || n > most) {
                refuse();
                return NONE;
            }
            step();
            return n;
        }
    }

    /** Reads a text of THE DEED straight into an island, which is no more of use if the text is wrong. */
    private static final class DeedReader {
        private final Reader text = new Reader();

        /** The first wrong byte, NONE of a right text. */
        int readText(int[] tape, int n, Island to) {
            text.open(tape, n);
            boolean more = !text.isEnd();
            for (int line = 0; more && line <= DEED_LINES; line++) {
                if (line == DEED_LINES) {
                    text.refuse();
                } else {
                    readLine(to);
                }
                more = text.isRight() && text.takes(";");
            }
            if (!text.isEnd()) {
                text.refuse();
            }
            return text.wrong;
        }

        private void readLine(Island to) {
            if (text.isAt("item")) {
                readItem(to);
            } else if (text.takes("hands")) {
                readCell(to.hands, SIDES, MOST_HANDS);
            } else if (text.takes("soil")) {
                readCell(to.soil, ROOMS, MOST_SOIL);
            } else if (text.takes("places")) {
                readCell(to.places, ROOMS, MOST_PLACES);
            } else if (text.takes("worn")) {
                readCell(to.worn, to.items, MOST_WORN);
            } else if (text.takes("storm")) {
                to.storm = text.number(0, MOST_STORM);
            } else if (text.takes("day")) {
                to.day = text.number(0, MOST_TOLD_DAY);
            } else {
                text.refuse();
            }
        }

        private void readCell(int[] row, int cells, int most) {
            int cell = text.number(0, cells - 1);
            put(row, cell, text.number(0, most));
        }

        private void readItem(Island to) {
            if (to.items >= MOST_ITEMS) {
                text.refuse();
                return;
            }
            text.needs("item");
            int value = text.number(1, MOST_VALUE);
            text.needs("home");
            int home = text.number(0, ROOMS - 1);
            text.needs("side");
            int side = text.number(0, SIDES - 1);
            int room = text.takes("in") ? text.number(0, ROOMS - 1) : home;
            to.addItem(value, home, side, room);
        }
    }

    /** Reads a text of THE LAW; what joins waits on a pile till what it joins has been read. */
    private static final class LawReader {
        private final Reader text = new Reader();
        private final int[] waits = new int[MOST_WAITING];
        private int waiting = 0;
        private int deep = 0;

        /** The first wrong byte, NONE of a right text. */
        int readText(int[] tape, int n, Law to) {
            text.open(tape, n);
            to.clear();
            boolean more = !text.isEnd();
            for (int line = 0; more && line <= LAW_LINES; line++) {
                if (line == LAW_LINES) {
                    text.refuse();
                } else {
                    readLine(to);
                }
                more = text.isRight() && text.takes(";");
            }
            if (!text.isEnd()) {
                text.refuse();
            }
            return text.wrong;
        }

        private void readLine(Law to) {
            int about = text.isAt("wear") ? 0 : text.isAt("shift") ? 1 : text.isAt("soil") ? 2 : NONE;
            if (about == NONE) {
                text.refuse();
                return;
            }
            text.step();
            to.beginLine(about, text.number(0, MOST_LAW));
            if (text.takes("if")) {
                readCondition(to);
            }
            to.endLine();
        }

        private void readCondition(Law to) {
            waiting = 0;
            deep = 0;
            boolean more = true;
            for (int atom = 0; more && atom < MOST_TAPE; atom++) {
                readAtom(to);
                closeAtom(to);
                more = text.isRight() && joins(to);
            }
            release(to, CODE_OR);
            if (waiting > 0) {
                text.refuse();
            }
        }

        private void readAtom(Law to) {
            for (int i = 0; i <= MOST_DEEP && (text.isAt("not") || text.isAt("(")); i++) {
                if (deep >= MOST_DEEP) {
                    text.refuse();
                    return;
                }
                hold(text.isAt("(") ? CODE_OPEN : CODE_NOT);
                deep++;
                text.step();
            }
            if (text.takes("own")) {
                to.emit(CODE_OWN);
            } else if (text.takes("home")) {
                to.emit(CODE_HOME);
            } else {
                readSum(to);
                int sign = text.isAt("<") ? CODE_LESS : CODE_MORE;
                if (!text.takes("<")) {
                    text.needs(">");
                }
                to.emit(CODE_SPLIT);
                readSum(to);
                to.emit(sign);
            }
        }

        private void readSum(Law to) {
            boolean more = text.isRight();
            for (int part = 0; more && part < MOST_TAPE; part++) {
                int code = partCode();
                if (code == 0) {
                    to.emit(text.number(0, MOST_NUMBER));
                } else {
                    to.emit(code);
                    text.step();
                }
                more = text.isRight() && text.takes("+");
            }
        }

        /** The code of a PART that is a word, 0 of anything else. */
        private int partCode() {
            return text.isAt("item") ? CODE_ITEM
                    : text.isAt("room") ? CODE_ROOM
                    : text.isAt("worn") ? CODE_WORN
                    : text.isAt("value") ? CODE_VALUE
                    : text.isAt("side") ? CODE_SIDE
                    : text.isAt("day") ? CODE_DAY
                    : text.isAt("soiled") ? CODE_SOILED
                    : 0;
        }

        /** An ATOM is whole: what is nearest to it is done, and each ( that ends here. */
        private void closeAtom(Law to) {
            release(to, CODE_NOT);
            for (int i = 0; i <= MOST_DEEP && text.isAt(")"); i++) {
                release(to, CODE_OR);
                if (waiting == 0) {
                    text.refuse();
                    return;
                }
                waiting--;
                deep--;
                text.step();
                release(to, CODE_NOT);
            }
        }

        private boolean joins(Law to) {
            if (text.takes("and")) {
                release(to, CODE_AND);
                hold(CODE_AND);
                return true;
            }
            if (text.takes("or")) {
                release(to, CODE_OR);
                hold(CODE_OR);
                return true;
            }
            return false;
        }

        private void hold(int code) {
            put(waits, waiting, code);
            waiting++;
        }

        /** What waits on top and binds as close as this one, or closer, is done. */
        private void release(Law to, int loosest) {
            while (waiting > 0 && at(waits, waiting - 1) >= loosest) {
                waiting--;
                int code = at(waits, waiting);
                if (code == CODE_NOT) {
                    deep--;
                }
                to.emit(code);
            }
        }
    }
}
