import java.util.ArrayDeque;
import java.util.ArrayList;
import java.util.Arrays;
import java.util.Collections;
import java.util.Deque;
import java.util.List;
import java.util.NoSuchElementException;
import java.util.regex.Matcher;
import java.util.regex.Pattern;

/** The document once more, told as slowly and plainly as it can be: ModelTest holds HalfIsle against it. */
final class Model {
    interface Cond {
        boolean holds(Isle s, int item);
    }

    interface Sum {
        int of(Isle s, int item);
    }

    record Line(String about, int n, Cond cond) {
    }

    static final class Wrong extends Exception {
        final int at;

        Wrong(int at) {
            this.at = at;
        }
    }

    static final class Thing {
        int value, home, side, room, worn, foundRoom, foundWorn;

        Thing copy() {
            Thing t = new Thing();
            t.value = value;
            t.home = home;
            t.side = side;
            t.room = room;
            t.worn = worn;
            t.foundRoom = foundRoom;
            t.foundWorn = foundWorn;
            return t;
        }

        boolean missing() {
            return room != foundRoom;
        }

        int worse() {
            return worn > foundWorn ? worn - foundWorn : 0;
        }

        int work() {
            return stepsOf(room, foundRoom) + (int) Math.ceil(worse() / 5.0);
        }
    }

    static final class Isle {
        List<Thing> items = new ArrayList<>();
        int[] soil = new int[6];
        int[] places = {12, 12, 12, 12, 12, 12};
        int[] hands = {1, 1};
        int[] owes = new int[2];
        int storm, day, soiled, texts, seed = 1;
        List<int[]> log = new ArrayList<>();
        List<Line> law = null;

        Isle copy() {
            Isle c = new Isle();
            for (Thing t : items) {
                c.items.add(t.copy());
            }
            c.soil = soil.clone();
            c.places = places.clone();
            c.hands = hands.clone();
            c.owes = owes.clone();
            c.storm = storm;
            c.day = day;
            c.soiled = soiled;
            c.texts = texts;
            c.seed = seed;
            c.log = new ArrayList<>(log);
            c.law = law;
            return c;
        }

        int there() {
            return (day % 364) / 182;
        }

        int soilOfAll() {
            return Arrays.stream(soil).sum();
        }

        int by(String about, int item) {
            int sum = 0;
            if (law != null) {
                for (Line line : law) {
                    if (line.about.equals(about) && line.cond.holds(this, item)) {
                        sum += line.n;
                    }
                }
            }
            return sum;
        }

        int due() {
            int sum = soilOfAll() > soiled ? soilOfAll() - soiled : 0;
            for (Thing t : items) {
                if (t.missing()) {
                    sum += t.value;
                }
                sum += t.worse();
            }
            return sum;
        }

        void take() {
            for (Thing t : items) {
                t.foundRoom = t.room;
                t.foundWorn = t.worn;
            }
            soiled = soilOfAll();
        }

        int missingOnes() {
            int n = 0;
            for (Thing t : items) {
                if (t.missing()) {
                    n++;
                }
            }
            return n;
        }

        int draw() {
            seed = seed * 1103515245 + 12345;
            return (seed >> 16) & 0x7fff;
        }

        boolean pass(boolean storms) {
            for (int i = 0; i < items.size(); i++) {
                Thing t = items.get(i);
                int wears = by("wear", i);
                int shifts = by("shift", i);
                int soils = by("soil", i);
                t.worn = Math.min(99, t.worn + wears);
                soil[t.room] = Math.min(99, soil[t.room] + soils);
                t.room = (t.room + shifts) % 6;
            }
            if (storms && draw() % 100 < storm) {
                int where = draw() % 6;
                for (Thing t : items) {
                    if (t.room == where) {
                        t.worn = Math.min(99, t.worn + 2);
                    }
                }
            }
            boolean equinox = day % 182 == 181;
            if (equinox) {
                int more = due();
                int side = there();
                log.add(new int[] {day, side, missingOnes(), more});
                owes[side] = Math.min(9999, owes[side] + more);
                take();
            }
            if (day < 9999) {
                day++;
            }
            return equinox;
        }

        int worn() {
            int sum = 0;
            for (Thing t : items) {
                sum += t.worn;
            }
            return sum;
        }

        int work() {
            int sum = 0;
            for (Thing t : items) {
                sum += t.work();
            }
            for (int s : soil) {
                sum += (int) Math.ceil(s / 10.0);
            }
            return sum;
        }
    }

    Isle s = new Isle();
    Isle kept = null;
    Deque<Isle> acts = new ArrayDeque<>();
    int fault = -1;
    List<Integer> tape = new ArrayList<>();

    static int stepsOf(int a, int b) {
        int up = Math.floorMod(b - a, 6);
        int down = Math.floorMod(a - b, 6);
        return Math.min(up, down);
    }

    // ---- reading

    static final class Parser {
        final List<String> things = new ArrayList<>();
        final List<Integer> begins = new ArrayList<>();
        int next = 0;

        Parser(String text) {
            Matcher m = Pattern.compile("[a-z]+|[0-9]+|[^ ]", Pattern.DOTALL).matcher(text);
            while (m.find()) {
                things.add(m.group());
                begins.add(m.start());
            }
            things.add("");
            begins.add(text.length());
        }

        String peek() {
            return things.get(next);
        }

        Wrong wrong() {
            return new Wrong(begins.get(next));
        }

        boolean takes(String word) {
            if (peek().equals(word)) {
                next++;
                return true;
            }
            return false;
        }

        void needs(String word) throws Wrong {
            if (!takes(word)) {
                throw wrong();
            }
        }

        int number(int least, int most) throws Wrong {
            if (!peek().matches("[0-9]{1,3}")) {
                throw wrong();
            }
            int n = Integer.parseInt(peek());
            if (n < least || n > most) {
                throw wrong();
            }
            next++;
            return n;
        }

        void deed(Isle to) throws Wrong {
            if (peek().isEmpty()) {
                return;
            }
            int lines = 0;
            do {
                if (lines == 14) {
                    throw wrong();
                }
                deedLine(to);
                lines++;
            } while (takes(";"));
            if (!peek().isEmpty()) {
                throw wrong();
            }
        }

        void deedLine(Isle to) throws Wrong {
            String word = peek();
            if (word.equals("item") && to.items.size() == 12) {
                throw wrong();
            }
            if (!List.of("item", "hands", "soil", "places", "storm", "worn", "day").contains(word)) {
                throw wrong();
            }
            next++;
            if (word.equals("item")) {
                Thing t = new Thing();
                t.value = number(1, 99);
                needs("home");
                t.home = number(0, 5);
                needs("side");
                t.side = number(0, 1);
                t.room = takes("in") ? number(0, 5) : t.home;
                t.foundRoom = t.room;
                to.items.add(t);
            } else if (word.equals("hands")) {
                int side = number(0, 1);
                to.hands[side] = number(0, 20);
            } else if (word.equals("soil")) {
                int room = number(0, 5);
                to.soil[room] = number(0, 99);
            } else if (word.equals("places")) {
                int room = number(0, 5);
                to.places[room] = number(0, 12);
            } else if (word.equals("storm")) {
                to.storm = number(0, 100);
            } else if (word.equals("worn")) {
                int item = number(0, to.items.size() - 1);
                to.items.get(item).worn = number(0, 99);
            } else {
                to.day = number(0, 999);
            }
        }

        List<Line> law() throws Wrong {
            List<Line> lines = new ArrayList<>();
            if (peek().isEmpty()) {
                return lines;
            }
            do {
                String word = peek();
                if (lines.size() == 12 || !List.of("wear", "shift", "soil").contains(word)) {
                    throw wrong();
                }
                next++;
                int n = number(0, 20);
                Cond cond = (isle, item) -> true;
                if (takes("if")) {
                    cond = anyOf(0);
                }
                lines.add(new Line(word, n, cond));
            } while (takes(";"));
            if (!peek().isEmpty()) {
                throw wrong();
            }
            return lines;
        }

        Cond anyOf(int deep) throws Wrong {
            Cond one = allOf(deep);
            while (takes("or")) {
                Cond before = one;
                Cond next = allOf(deep);
                one = (isle, item) -> before.holds(isle, item) || next.holds(isle, item);
            }
            return one;
        }

        Cond allOf(int deep) throws Wrong {
            Cond one = atom(deep);
            while (takes("and")) {
                Cond before = one;
                Cond next = atom(deep);
                one = (isle, item) -> before.holds(isle, item) && next.holds(isle, item);
            }
            return one;
        }

        Cond atom(int deep) throws Wrong {
            if (deep == 6 && (peek().equals("not") || peek().equals("("))) {
                throw wrong();
            }
            if (takes("not")) {
                Cond inner = atom(deep + 1);
                return (isle, item) -> !inner.holds(isle, item);
            }
            if (takes("(")) {
                Cond inner = anyOf(deep + 1);
                needs(")");
                return inner;
            }
            if (takes("own")) {
                return (isle, item) -> isle.items.get(item).side == isle.there();
            }
            if (takes("home")) {
                return (isle, item) -> isle.items.get(item).room == isle.items.get(item).home;
            }
            Sum left = sum();
            boolean less = takes("<");
            if (!less) {
                needs(">");
            }
            Sum right = sum();
            return less ? (isle, item) -> left.of(isle, item) < right.of(isle, item)
                    : (isle, item) -> left.of(isle, item) > right.of(isle, item);
        }

        Sum sum() throws Wrong {
            Sum one = part();
            while (takes("+")) {
                Sum before = one;
                Sum next = part();
                one = (isle, item) -> before.of(isle, item) + next.of(isle, item);
            }
            return one;
        }

        Sum part() throws Wrong {
            if (takes("item")) {
                return (isle, item) -> item;
            }
            if (takes("room")) {
                return (isle, item) -> isle.items.get(item).room;
            }
            if (takes("worn")) {
                return (isle, item) -> isle.items.get(item).worn;
            }
            if (takes("value")) {
                return (isle, item) -> isle.items.get(item).value;
            }
            if (takes("side")) {
                return (isle, item) -> isle.there();
            }
            if (takes("day")) {
                return (isle, item) -> isle.day % 182;
            }
            if (takes("soiled")) {
                return (isle, item) -> isle.soil[isle.items.get(item).room];
            }
            int n = number(0, 999);
            return (isle, item) -> n;
        }
    }

    String text() {
        StringBuilder out = new StringBuilder();
        for (int b : tape) {
            out.append((char) b);
        }
        tape.clear();
        return out.toString();
    }

    // ---- checks

    void item(int i) {
        if (i < 0 || i >= s.items.size()) {
            throw new IndexOutOfBoundsException();
        }
    }

    static void within(int n, int least, int most) {
        if (n < least || n > most) {
            throw new IllegalArgumentException();
        }
    }

    static void index(int n, int size) {
        if (n < 0 || n >= size) {
            throw new IndexOutOfBoundsException();
        }
    }

    static void what(int what, int most) {
        if (what < 0 || what > most) {
            throw new NoSuchElementException();
        }
    }

    void act() {
        acts.addLast(s.copy());
        if (acts.size() > 12) {
            acts.removeFirst();
        }
    }

    Isle ahead(int n) {
        Isle c = s.copy();
        for (int i = 0; i < n; i++) {
            c.pass(false);
        }
        return c;
    }

    Isle trial(int n, int seed) {
        Isle c = s.copy();
        c.seed = seed;
        for (int i = 0; i < n; i++) {
            c.pass(true);
        }
        return c;
    }

    interface Of {
        boolean holds(Thing t);
    }

    int bits(Of of) {
        int set = 0;
        for (int i = 0; i < s.items.size(); i++) {
            if (of.holds(s.items.get(i))) {
                set += 1 << i;
            }
        }
        return set;
    }

    // ---- the face, by name

    long call(String name, int... a) {
        switch (name) {
            case "feed": {
                if (tape.size() + 20 > 400) {
                    return -1;
                }
                for (int n : a) {
                    tape.add(n >> 24 & 255);
                    tape.add(n >> 16 & 255);
                    tape.add(n >> 8 & 255);
                    tape.add(n & 255);
                }
                return tape.size();
            }
            case "end": {
                if (a[0] < 0 || a[0] > tape.size()) {
                    return 0;
                }
                tape = new ArrayList<>(tape.subList(0, a[0]));
                return 1;
            }
            case "deed": {
                Isle c = s.copy();
                try {
                    new Parser(text()).deed(c);
                    fault = -1;
                } catch (Wrong e) {
                    fault = e.at;
                    throw new IllegalArgumentException();
                }
                if (s.texts == 12) {
                    throw new UnsupportedOperationException();
                }
                s = c;
                acts.clear();
                return ++s.texts;
            }
            case "law": {
                try {
                    s.law = new Parser(text()).law();
                    fault = -1;
                } catch (Wrong e) {
                    fault = e.at;
                    throw new IllegalArgumentException();
                }
                acts.clear();
                return s.law.size();
            }
            case "fault":
                return fault;
            case "item": {
                item(a[0]);
                what(a[1], 9);
                Thing t = s.items.get(a[0]);
                return new int[] {t.room, t.home, t.worn, t.value, t.side, t.foundRoom, t.foundWorn,
                    t.missing() ? 1 : 0, t.worse(), t.work()}[a[1]];
            }
            case "room": {
                index(a[0], 6);
                what(a[1], 3);
                return new int[] {s.soil[a[0]], s.places[a[0]], bits(t -> t.room == a[0]),
                    bits(t -> t.home == a[0])}[a[1]];
            }
            case "side": {
                index(a[0], 2);
                what(a[1], 4);
                int needs = needs(a[0]);
                int latest = -1;
                int equinox = s.day;
                while (equinox % 182 != 181) {
                    equinox++;
                }
                for (int wait = 0; wait <= 182 && needs >= 0; wait++) {
                    if (s.day + wait + needs - 1 <= equinox) {
                        latest = wait;
                    }
                }
                return new int[] {s.hands[a[0]], s.owes[a[0]], bits(t -> t.side == a[0]), needs, latest}[a[1]];
            }
            case "does": {
                item(a[0]);
                what(a[1], 2);
                return s.by(List.of("wear", "shift", "soil").get(a[1]), a[0]);
            }
            case "steps": {
                index(a[0], 6);
                index(a[1], 6);
                return stepsOf(a[0], a[1]);
            }
            case "carry": {
                item(a[0]);
                index(a[1], 6);
                act();
                int from = s.items.get(a[0]).room;
                s.items.get(a[0]).room = a[1];
                return from;
            }
            case "mend": {
                item(a[0]);
                act();
                Thing t = s.items.get(a[0]);
                t.worn = t.worn < 5 ? 0 : t.worn - 5;
                return t.worn;
            }
            case "sweep": {
                index(a[0], 6);
                act();
                int soil = s.soil[a[0]];
                s.soil[a[0]] = 0;
                return soil;
            }
            case "pay": {
                index(a[0], 2);
                within(a[1], 1, s.owes[a[0]]);
                act();
                s.owes[a[0]] -= a[1];
                return s.owes[a[0]];
            }
            case "take": {
                act();
                int gone = s.missingOnes();
                s.take();
                return gone;
            }
            case "days": {
                within(a[0], 1, 400);
                act();
                int n = 0;
                for (int i = 0; i < a[0]; i++) {
                    n += s.pass(true) ? 1 : 0;
                }
                return n;
            }
            default:
                return asked(name, a);
        }
    }

    int needs(int side) {
        int work = s.work();
        if (work == 0) {
            return 0;
        }
        return s.hands[side] == 0 ? -1 : (int) Math.ceil(work / (double) s.hands[side]);
    }

    private long asked(String name, int[] a) {
        switch (name) {
            case "ahead": {
                item(a[0]);
                within(a[1], 0, 400);
                what(a[2], 2);
                Thing t = ahead(a[1]).items.get(a[0]);
                return a[2] == 0 ? t.room : a[2] == 1 ? t.worn : t.missing() ? 1 : 0;
            }
            case "missing":
                return bits(Thing::missing);
            case "worse":
                return bits(t -> t.worse() > 0);
            case "mislaid":
                return bits(t -> t.room != t.home);
            case "work":
                return s.work();
            case "first": {
                for (int n = 0; n <= 400; n++) {
                    Isle c = ahead(n);
                    for (int i = 0; i < c.items.size(); i++) {
                        if (c.items.get(i).missing()) {
                            return a[0] == 1 ? i : n;
                        }
                    }
                }
                return -1;
            }
            case "round": {
                for (int n = 1; n <= 60; n++) {
                    if (rooms(ahead(n)).equals(rooms(s))) {
                        return n;
                    }
                }
                return -1;
            }
            case "worst": {
                within(a[0], 0, 400);
                Isle c = ahead(a[0]);
                int worst = -1;
                for (int i = 0; i < c.items.size(); i++) {
                    if (worst < 0 || c.items.get(i).worn > c.items.get(worst).worn) {
                        worst = i;
                    }
                }
                return worst;
            }
            case "saves": {
                within(a[0], 0, 99);
                int best = 0;
                for (int set = 0; set < 1 << s.items.size(); set++) {
                    boolean allWork = true;
                    for (int i = 0; i < s.items.size(); i++) {
                        allWork &= (set >> i & 1) == 0 || s.items.get(i).work() > 0;
                    }
                    if (allWork && sumWork(set) <= a[0] && sumValue(set) > sumValue(best)) {
                        best = set;
                    }
                }
                return a[1] == 1 ? sumValue(best) : best;
            }
            case "search":
                return a[0] < 0 || a[0] > 5 ? -1 : bestOrder().get(a[0]);
            case "costs":
                return cost(bestOrder());
            case "calm": {
                within(a[0], 0, 6);
                long fits = 0;
                long whole = 1;
                for (int i = 0; i < a[0]; i++) {
                    whole *= 100;
                }
                for (int set = 0; set < 1 << a[0]; set++) {
                    if (Integer.bitCount(set) >= a[1]) {
                        long p = 1;
                        for (int i = 0; i < a[0]; i++) {
                            p *= (set >> i & 1) == 1 ? 100 - s.storm : s.storm;
                        }
                        fits += p;
                    }
                }
                return fits * 10000 / whole;
            }
            case "boats": {
                within(a[0], 0, 999);
                within(a[1], 1, 99);
                within(a[2], 1, 9);
                int days = 0;
                for (int left = a[0]; left > 0; left -= a[1] * a[2]) {
                    days++;
                }
                return days;
            }
            case "rests":
                return rests();
            case "due":
                return s.due();
            case "lighten":
                return lighten(a[0]);
            case "wearing": {
                item(a[0]);
                int n = 1;
                while ((s.day + n - 1) % 182 != 181) {
                    n++;
                }
                return ahead(n).items.get(a[0]).worn - s.items.get(a[0]).worn;
            }
            default:
                return askedMore(name, a);
        }
    }

    private static List<Integer> rooms(Isle c) {
        List<Integer> rooms = new ArrayList<>();
        for (Thing t : c.items) {
            rooms.add(t.room);
        }
        return rooms;
    }

    private int sumWork(int set) {
        int sum = 0;
        for (int i = 0; i < s.items.size(); i++) {
            sum += (set >> i & 1) * s.items.get(i).work();
        }
        return sum;
    }

    private int sumValue(int set) {
        int sum = 0;
        for (int i = 0; i < s.items.size(); i++) {
            sum += (set >> i & 1) * s.items.get(i).value;
        }
        return sum;
    }

    private int cost(List<Integer> order) {
        int paid = 0;
        int all = 0;
        for (int room : order) {
            paid += s.soil[room] + 1;
            all += paid * (1 + Integer.bitCount(bits(t -> t.room == room)));
        }
        return all;
    }

    private List<Integer> bestOrder() {
        List<List<Integer>> orders = new ArrayList<>();
        permute(new ArrayList<>(), orders);
        List<Integer> best = orders.get(0);
        int least = cost(best);
        for (List<Integer> order : orders) {
            int c = cost(order);
            if (c < least) {
                least = c;
                best = order;
            }
        }
        return best;
    }

    private static void permute(List<Integer> begun, List<List<Integer>> out) {
        if (begun.size() == 6) {
            out.add(new ArrayList<>(begun));
            return;
        }
        for (int r = 0; r < 6; r++) {
            if (!begun.contains(r)) {
                begun.add(r);
                permute(begun, out);
                begun.remove(begun.size() - 1);
            }
        }
    }

    private long rests() {
        int w = s.work();
        int gone = 0;
        for (Thing t : s.items) {
            gone += t.missing() ? t.value : 0;
        }
        int half = (w + 1) / 2;
        int[] cost0 = {half, w, 0, gone};
        int[] cost1 = {half, 0, w, gone};
        int set = 0;
        for (int c = 0; c < 4; c++) {
            if (cost0[c] <= cost0[c ^ 2] && cost1[c] <= cost1[c ^ 1]) {
                set += 1 << c;
            }
        }
        return set;
    }

    private long lighten(int n) {
        within(n, 0, 9999);
        for (int size = 0; size <= s.items.size(); size++) {
            for (int set = 0; set < 1 << s.items.size(); set++) {
                if (Integer.bitCount(set) == size) {
                    Isle c = s.copy();
                    for (int i = 0; i < c.items.size(); i++) {
                        if ((set >> i & 1) == 1) {
                            c.items.get(i).room = c.items.get(i).foundRoom;
                            c.items.get(i).worn = c.items.get(i).foundWorn;
                        }
                    }
                    if (c.due() <= n) {
                        return set;
                    }
                }
            }
        }
        return -1;
    }

    private long askedMore(String name, int[] a) {
        switch (name) {
            case "meets": {
                item(a[0]);
                item(a[1]);
                if (a[0] == a[1]) {
                    throw new IllegalArgumentException();
                }
                for (int n = 0; n <= 400; n++) {
                    List<Integer> rooms = rooms(ahead(n));
                    if (rooms.get(a[0]).equals(rooms.get(a[1]))) {
                        return n;
                    }
                }
                return -1;
            }
            case "visits": {
                item(a[0]);
                within(a[1], 0, 60);
                int set = 0;
                for (int n = 0; n <= a[1]; n++) {
                    set |= 1 << rooms(ahead(n)).get(a[0]);
                }
                return set;
            }
            case "crowd": {
                within(a[0], 0, 400);
                List<Integer> rooms = rooms(ahead(a[0]));
                int most = 0;
                for (int r = 0; r < 6; r++) {
                    most = Math.max(most, Collections.frequency(rooms, r));
                }
                return most;
            }
            case "stays": {
                item(a[0]);
                for (int n = 1; n <= 400; n++) {
                    if (!rooms(ahead(n)).get(a[0]).equals(rooms(s).get(a[0]))) {
                        return n;
                    }
                }
                return -1;
            }
            case "parted": {
                int all = (1 << s.items.size()) - 1;
                int best = 0;
                for (int set = 0; set <= all; set++) {
                    int apart = Math.abs(sumValue(set) - sumValue(all & ~set));
                    if (apart < Math.abs(sumValue(best) - sumValue(all & ~best))) {
                        best = set;
                    }
                }
                return a[0] == 1 ? best : Math.abs(sumValue(best) - sumValue(all & ~best));
            }
            case "clash": {
                int set = 0;
                for (int r = 0; r < 6; r++) {
                    int room = r;
                    set |= Integer.bitCount(bits(t -> t.home == room)) > s.places[r] ? 1 << r : 0;
                }
                return set;
            }
            case "full": {
                int set = 0;
                for (int r = 0; r < 6; r++) {
                    int room = r;
                    set |= Integer.bitCount(bits(t -> t.room == room)) >= s.places[r] ? 1 << r : 0;
                }
                return set;
            }
            case "settles":
                return s.owes[0] - s.owes[1];
            case "richest": {
                int best = 0;
                for (int r = 0; r < 6; r++) {
                    if (inRoom(r) > inRoom(best)) {
                        best = r;
                    }
                }
                return best;
            }
            case "traces": {
                List<Integer> ways = ways();
                int in = 63;
                for (int way : ways) {
                    in &= way;
                }
                return a[0] == 0 ? ways.size() : ways.isEmpty() ? 0 : in;
            }
            case "look": {
                List<Integer> ways = ways();
                int best = -1;
                int least = 1000;
                for (int r = 0; r < 6 && ways.size() > 1; r++) {
                    int there = 0;
                    for (int way : ways) {
                        there += way >> r & 1;
                    }
                    int greater = Math.max(there, ways.size() - there);
                    if (greater < least) {
                        least = greater;
                        best = r;
                    }
                }
                return best;
            }
            default:
                return kept(name, a);
        }
    }

    private int inRoom(int r) {
        int sum = 0;
        for (Thing t : s.items) {
            sum += t.room == r ? t.value : 0;
        }
        return sum;
    }

    private List<Integer> ways() {
        List<Integer> told = new ArrayList<>(tape);
        tape.clear();
        if (told.size() > 40 || told.size() % 2 == 1) {
            throw new IllegalArgumentException();
        }
        for (int i = 0; i < told.size(); i += 2) {
            if (told.get(i) > 5 || told.get(i + 1) > 1) {
                throw new IllegalArgumentException();
            }
        }
        List<Integer> ways = new ArrayList<>();
        for (int from = 0; from < 6; from++) {
            for (int length = 1; length <= 6; length++) {
                int set = 0;
                for (int k = 0; k < length; k++) {
                    set |= 1 << (from + k) % 6;
                }
                boolean fits = true;
                for (int i = 0; i < told.size(); i += 2) {
                    fits &= (set >> told.get(i) & 1) == told.get(i + 1);
                }
                if (fits) {
                    ways.add(set);
                }
            }
        }
        return ways;
    }

    private long kept(String name, int[] a) {
        switch (name) {
            case "like": {
                if (kept == null) {
                    return -1;
                }
                int n = 0;
                for (int i = 0; i < Math.min(s.items.size(), kept.items.size()); i++) {
                    Thing t = s.items.get(i);
                    Thing k = kept.items.get(i);
                    n += t.room == k.room && t.worn == k.worn ? 1 : 0;
                }
                return n;
            }
            case "trial": {
                within(a[0], 0, 400);
                Isle c = trial(a[0], s.seed);
                return a[1] == 1 ? c.owes[0] + c.owes[1] : c.worn();
            }
            case "span": {
                within(a[0], 0, 400);
                List<Integer> worn = new ArrayList<>();
                for (int seed = 1; seed <= 6; seed++) {
                    worn.add(trial(a[0], seed).worn());
                }
                return a[1] == 1 ? Collections.max(worn) : Collections.min(worn);
            }
            case "led": {
                index(a[0], 2);
                int often = 0;
                int more = 0;
                for (int[] row : rows()) {
                    if (row[1] == a[0]) {
                        often++;
                        more += row[3];
                    }
                }
                return a[1] == 1 ? more : often;
            }
            case "log": {
                what(a[1], 3);
                List<int[]> rows = rows();
                return a[0] < 0 || a[0] >= rows.size() ? -1 : rows.get(rows.size() - 1 - a[0])[a[1]];
            }
            case "seed": {
                int before = s.seed;
                s.seed = a[0];
                return before;
            }
            case "undo": {
                if (acts.isEmpty()) {
                    return 0;
                }
                s = acts.removeLast();
                return 1;
            }
            case "image":
                kept = s.copy();
                return 0;
            case "back": {
                if (kept == null) {
                    return 0;
                }
                s = kept.copy();
                acts.clear();
                return 1;
            }
            case "count":
                return count(a[0]);
            default:
                throw new AssertionError(name);
        }
    }

    private List<int[]> rows() {
        return s.log.subList(Math.max(0, s.log.size() - 60), s.log.size());
    }

    private int count(int what) {
        if (what < 0 || what > 11) {
            return -1;
        }
        int all = (1 << s.items.size()) - 1;
        return new int[] {s.items.size(), s.texts, s.law == null ? -1 : s.law.size(), s.day, s.there(), s.storm,
            s.soilOfAll(), s.soiled, s.worn(), sumValue(all), rows().size(), acts.size()}[what];
    }
}
