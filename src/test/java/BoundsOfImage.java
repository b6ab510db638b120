/** Boundary cases of THE IMAGE, likeness, TRIALS and SPANS: promises 46 to 48, 53 and 54. */
final class BoundsOfImage extends Bounds {
    private static final String ITEM = "item 5 home 0 side 0";

    static void test() {
        like();
        trial();
        span();
        image();
    }

    private static void like() {
        test("Terms, LIKE, 46 like", "(of ITEMS that both have); none without one.", () -> {
            HalfIsle isle = isle(ITEM);
            is(isle.like(), HalfIsle.NONE);
            isle.image();
            is(isle.like(), 1);
            deed(isle, ITEM + ";" + ITEM);
            is(isle.like(), 1);
            isle.image();
            is(isle.like(), 3);
            HalfIsle empty = new HalfIsle();
            is(empty.like(), HalfIsle.NONE);
            empty.image();
            is(empty.like(), 0);
            deed(empty, ITEM);
            is(empty.like(), 0);
            deed(empty, ITEM);
            empty.image();
            is(empty.like(), 2);
        });
        test("Terms, LIKE", "in how many ITEMS ROOM and WORN are both as THE IMAGE has them", () -> {
            HalfIsle isle = isle(lines(ITEM, 12));
            isle.image();
            is(isle.like(), 12);
            isle.carry(0, 5);
            deed(isle, "worn 1 1; worn 0 1");
            is(isle.like(), 10);
            isle.carry(0, 0);
            is(isle.like(), 10);
            isle.mend(0);
            is(isle.like(), 11);
            isle.take();
            is(isle.like(), 11);
        });
    }

    private static void trial() {
        test("Terms, TRIAL, 47 trial", "TRIAL of N DAYS (0 to 400) from now (draws, too; nothing stays)", () -> {
            // from SEED 1 on the first STORM is in ROOM 4
            HalfIsle isle = isle(ITEM + " in 4;" + ITEM + "; worn 1 97; storm 100; day 180", "soil 1");
            isle.carry(1, 4);
            is(isle.trial(0, false), 97);
            is(isle.trial(0, true), 0);
            is(isle.trial(1, false), 2 + 99);
            is(isle.trial(1, true), 0);
            // the EQUINOX: one MISSING, WORN 2 and 99, SOIL 4
            is(isle.trial(2, false), 101);
            is(isle.trial(2, true), 5 + 101 + 4);
            is(isle.trial(400, false) > 101, true);
            is(isle.count(3), 180);
            is(isle.count(8), 97);
            is(isle.count(6), 0);
            is(isle.count(10), 0);
            is(isle.side(0, 1), 0);
            is(isle.count(11), 1);
            is(isle.seed(1), 1);
        });
        test("Terms, TRIAL", "WORN of all together then; what both SIDES OWE then.", () -> {
            HalfIsle isle = isle(ITEM, "shift 1; wear 20");
            // each EQUINOX has the ITEM MISSING, the first one has it 99 WORSE
            is(isle.trial(181, true), 0);
            is(isle.trial(182, true), 5 + 99);
            is(isle.trial(364, true), 5 + 99 + 5);
            is(isle.trial(400, true), 5 + 99 + 5);
            is(isle.trial(400, false), 99);
            isle.days(182);
            is(isle.trial(0, true), 104);
            is(isle.trial(182, true), 109);
        });
        test("Promise 47 trial", "IllegalArgumentException: N is none.", () -> {
            HalfIsle isle = isle(ITEM);
            none(() -> isle.trial(-1, false));
            none(() -> isle.trial(401, false));
            none(() -> isle.trial(-1, true));
            none(() -> isle.trial(401, true));
            none(() -> isle.trial(Integer.MIN_VALUE, true));
            is(isle.trial(0, false), 0);
            is(isle.trial(400, false), 0);
        });
    }

    /** WORN of all behind a TRIAL from this SEED. */
    private static int worn(HalfIsle isle, int seed, int n) {
        int before = isle.seed(seed);
        int worn = isle.trial(n, false);
        isle.seed(before);
        return worn;
    }

    /** STORM, N and the ROOM of an ITEM for which the least (the greatest) WORN is that from SEED 1, 2, .. 6 alone. */
    private static final int[][] LEAST = {{100, 5, 2}, {95, 4, 3}, {80, 4, 5}, {80, 6, 3}, {95, 7, 1}, {70, 5, 4}};
    private static final int[][] MOST = {{40, 2, 1}, {10, 1, 5}, {10, 2, 3}, {20, 1, 4}, {60, 5, 3}, {30, 1, 3}};

    private static HalfIsle stormy(int[] row) {
        return isle("item 5 home " + row[2] + " side 0; storm " + row[0]);
    }

    private static void eachSeedCounts(int seedOfBound, int[] row, boolean most) {
        HalfIsle isle = stormy(row);
        int bound = worn(isle, seedOfBound, row[1]);
        for (int seed = 1; seed <= 6; seed++) {
            int worn = worn(isle, seed, row[1]);
            is(seed == seedOfBound || (most ? worn < bound : worn > bound), true);
        }
        is(isle.span(row[1], most), bound);
    }

    /** Another SEED would go beyond, and it is that from which the isle goes on. */
    private static void noOtherCounts(int seedBeyond, int[] row, boolean most) {
        HalfIsle isle = stormy(row);
        isle.seed(seedBeyond);
        int beyond = isle.trial(row[1], false);
        int span = isle.span(row[1], most);
        is(most ? beyond > span : beyond < span, true);
        is(isle.trial(row[1], false), beyond);
    }

    private static void span() {
        test("Terms, SPAN, 48 span", "behind such TRIALS from SEED 1, 2, .. 6.", () -> {
            for (int seed = 1; seed <= 6; seed++) {
                eachSeedCounts(seed, LEAST[seed - 1], false);
                eachSeedCounts(seed, MOST[seed - 1], true);
            }
            noOtherCounts(7, new int[] {100, 11, 2}, true);
            noOtherCounts(7, new int[] {90, 9, 3}, false);
            noOtherCounts(0, new int[] {65, 12, 0}, true);
            noOtherCounts(0, new int[] {35, 25, 3}, false);
        });
        test("Terms, SPAN", "the least and the greatest WORN of all", () -> {
            is(new HalfIsle().span(400, true), 0);
            is(new HalfIsle().span(400, false), 0);
            HalfIsle isle = isle(ITEM + "; worn 0 7; storm 100");
            is(isle.span(0, true), 7);
            is(isle.span(0, false), 7);
            is(isle.seed(1), 1);
            is(isle.item(0, 2), 7);
        });
        test("Promise 48 span", "IllegalArgumentException: N is none.", () -> {
            HalfIsle isle = isle(ITEM);
            none(() -> isle.span(-1, false));
            none(() -> isle.span(401, false));
            none(() -> isle.span(-1, true));
            none(() -> isle.span(401, true));
            none(() -> isle.span(Integer.MAX_VALUE, true));
            is(isle.span(0, true), 0);
            is(isle.span(400, true), 0);
        });
    }

    private static void image() {
        test("Promise 53 image", "THE IMAGE is kept.", () -> {
            HalfIsle isle = isle(ITEM);
            isle.image();
            isle.carry(0, 5);
            isle.image();
            isle.carry(0, 3);
            is(isle.back(), true);
            is(isle.item(0, 0), 5);
            HalfIsle empty = new HalfIsle();
            empty.image();
            deed(empty, ITEM);
            is(empty.back(), true);
            is(empty.count(0), 0);
            is(empty.count(1), 0);
            outside(() -> empty.item(0, 0));
        });
        test("Promise 54 back", "true; false, and nothing happens, if none was kept.", () -> {
            HalfIsle isle = isle(ITEM, "wear 1");
            isle.carry(0, 2);
            is(isle.back(), false);
            is(isle.item(0, 0), 2);
            is(isle.count(2), 1);
            is(isle.count(11), 1);
            isle.image();
            isle.days(3);
            is(isle.back(), true);
            is(isle.back(), true);
            is(isle.count(3), 0);
        });
        test("Terms, THE IMAGE, 54 back",
                "gone back to (but for the TAPE, fault() and THE IMAGE itself).", () -> {
            HalfIsle isle = isle(ITEM + "; storm 100; soil 0 40", "wear 1; soil 1; shift 1");
            isle.seed(9);
            isle.image();
            isle.days(400);
            isle.seed(4);
            law(isle, "");
            deed(isle, ITEM + "; storm 0; hands 0 0; hands 1 9; places 5 0; soil 5 99; day 7");
            wrongDeed(isle, "day 5;", 6);
            Checks.feed(isle, "day");
            is(isle.back(), true);
            int[] counts = {1, 1, 3, 0, 0, 100, 40, 0, 0, 5, 0, 0};
            for (int what = 0; what < 12; what++) {
                is(isle.count(what), counts[what]);
            }
            is(isle.seed(9), 9);
            is(isle.side(0, 0), 1);
            is(isle.side(1, 0), 1);
            is(isle.room(5, 1), 12);
            is(isle.item(0, 0), 0);
            is(isle.does(0, 0), 1);
            is(isle.log(0, 0), HalfIsle.NONE);
            is(isle.fault(), 6);
            is(isle.end(3), true);
            is(isle.end(4), false);
            is(isle.like(), 1);
            // THE IMAGE without a LAW
            HalfIsle lawless = isle(ITEM);
            lawless.image();
            law(lawless, "wear 1");
            is(lawless.back(), true);
            is(lawless.count(2), HalfIsle.NONE);
            is(lawless.does(0, 0), 0);
            // with what its LINES hold if
            HalfIsle lawful = isle(ITEM, "wear 1 if worn < 3; wear 2 if worn > 2; soil 3 if not home");
            lawful.image();
            law(lawful, "wear 7 if home and home; wear 7 if day < 181 or worn > 3 + value + soiled");
            is(lawful.back(), true);
            is(lawful.does(0, 0), 1);
            is(lawful.does(0, 2), 0);
            deed(lawful, "worn 0 3");
            lawful.carry(0, 1);
            is(lawful.does(0, 0), 2);
            is(lawful.does(0, 2), 3);
            is(lawful.back(), true);
            is(lawful.does(0, 0), 1);
        });
    }
}
