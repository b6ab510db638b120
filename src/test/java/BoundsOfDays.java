/** Boundary cases of a DAY, its DRAWS and EQUINOXES, and of THE LOG: promises 17, 49, 50 and 51. */
final class BoundsOfDays extends Bounds {
    private static final String ITEM = "item 5 home 0 side 0";

    static void test() {
        items();
        storms();
        equinoxes();
        lastDay();
        draws();
        logs();
        calls();
    }

    private static void lastDay() {
        test("Terms, a DAY", "DAY is 1 more (9999 at most).", () -> {
            HalfIsle isle = isle(ITEM);
            is(days(isle, 9998), 54);
            is(isle.count(3), 9998);
            is(isle.days(1), 0);
            is(isle.count(3), 9999);
            is(isle.days(400), 0);
            is(isle.count(3), 9999);
            is(isle.count(4), 0);
            is(isle.count(10), 54);
        });
    }

    private static void items() {
        test("Terms, a DAY", "each ITEM, by numbers, by all as it is by then", () -> {
            // the first one soils what the second one sees, and not the other way round
            HalfIsle isle = isle(ITEM + ";" + ITEM, "soil 5; wear 1 if soiled > 0");
            isle.days(1);
            is(isle.item(0, 2), 0);
            is(isle.item(1, 2), 1);
            is(isle.room(0, 0), 10);
            isle.days(1);
            is(isle.item(0, 2), 1);
            is(isle.item(1, 2), 2);
        });
        test("Terms, a DAY", "WEARS, SHIFTS, SOILS are told; then", () -> {
            HalfIsle isle = isle(ITEM, "wear 1; shift 1 if worn > 0; soil 3; soil 1 if worn > 0");
            isle.days(1);
            is(isle.item(0, 0), 0);
            is(isle.room(0, 0), 3);
            isle.days(1);
            is(isle.item(0, 0), 1);
            is(isle.room(0, 0), 7);
            is(isle.room(1, 0), 0);
        });
        test("Terms, a DAY", "WORN is more by what it WEARS by (99 at most)", () -> {
            HalfIsle isle = isle(ITEM + "; worn 0 96", "wear 2");
            isle.days(1);
            is(isle.item(0, 2), 98);
            isle.days(1);
            is(isle.item(0, 2), 99);
            isle.days(1);
            is(isle.item(0, 2), 99);
            HalfIsle most = isle(ITEM, lines("wear 20", 12));
            most.days(1);
            is(most.item(0, 2), 99);
        });
        test("Terms, a DAY", "SOIL of its ROOM by what it SOILS by (99 at most)", () -> {
            HalfIsle isle = isle(ITEM + " in 5; soil 5 96", "soil 2");
            isle.days(1);
            is(isle.room(5, 0), 98);
            isle.days(1);
            is(isle.room(5, 0), 99);
            HalfIsle most = isle(lines(ITEM, 12), lines("soil 20", 12));
            most.days(1);
            is(most.room(0, 0), 99);
            is(most.room(1, 0), 0);
        });
        test("Terms, a DAY", "it is as many ROOMS on as it SHIFTS by (modulo 6)", () -> {
            int[] shifts = {0, 1, 5, 6, 7, 20};
            int[] rooms = {5, 0, 4, 5, 0, 1};
            for (int i = 0; i < shifts.length; i++) {
                HalfIsle isle = isle(ITEM + " in 5", "shift " + shifts[i]);
                isle.days(1);
                is(isle.item(0, 0), rooms[i]);
            }
            HalfIsle most = isle(ITEM + " in 1", lines("shift 20", 12));
            most.days(1);
            is(most.item(0, 0), 1);
            HalfIsle odd = isle(ITEM + " in 1", lines("shift 20", 11) + "; shift 19");
            odd.days(1);
            is(odd.item(0, 0), 0);
        });
    }

    // From SEED 1 on the DRAWS are 16838, 5758, 10113, 17515, 31051: modulo 100 the first one is 38, and the second
    // one modulo 6 is 4.
    private static void storms() {
        test("Terms, a DAY", "If DRAW modulo 100 is below STORM", () -> {
            int[] storms = {0, 37, 38, 39, 40, 100};
            int[] worn = {0, 0, 0, 2, 2, 2};
            for (int i = 0; i < storms.length; i++) {
                HalfIsle isle = isle(ITEM + " in 4; storm " + storms[i]);
                isle.days(1);
                is(isle.item(0, 2), worn[i]);
            }
        });
        test("Terms, a DAY", "in the ROOM DRAW modulo 6", () -> {
            for (int room = 0; room < 6; room++) {
                HalfIsle isle = isle(ITEM + " in " + room + "; storm 100");
                isle.days(1);
                is(isle.item(0, 2), room == 4 ? 2 : 0);
            }
            // of the ROOM where it is behind (a), and each ITEM in it
            HalfIsle isle = isle(ITEM + " in 3;" + ITEM + " in 3;" + ITEM + " in 4; storm 100", "shift 1");
            isle.days(1);
            is(isle.item(0, 2), 2);
            is(isle.item(1, 2), 2);
            is(isle.item(2, 2), 0);
        });
        test("Terms, a DAY", "is 2 more (99 at most).", () -> {
            int[] worn = {0, 96, 97, 98, 99};
            int[] then = {2, 98, 99, 99, 99};
            for (int i = 0; i < worn.length; i++) {
                HalfIsle isle = isle(ITEM + " in 4; storm 100; worn 0 " + worn[i]);
                isle.days(1);
                is(isle.item(0, 2), then[i]);
            }
        });
        test("Terms, a DAY", "(The first DRAW is made always.)", () -> {
            HalfIsle calm = isle(ITEM);
            calm.days(1);
            is(calm.seed(1), 1103527590);
            calm.days(2);
            is(calm.seed(1), -1770082073);
            HalfIsle empty = new HalfIsle();
            empty.days(1);
            is(empty.seed(1), 1103527590);
            // the second one in a STORM alone
            HalfIsle storm = isle("storm 100");
            storm.days(1);
            is(storm.seed(1), -1770082073);
            HalfIsle just = isle("storm 38");
            just.days(1);
            is(just.seed(1), 1103527590);
        });
    }

    private static void equinoxes() {
        test("Terms, a DAY", "At an EQUINOX the SIDE that is THERE leaves", () -> {
            HalfIsle isle = isle("item 7 home 0 side 1; day 180");
            isle.carry(0, 1);
            isle.days(1);
            is(isle.side(0, 1), 0);
            isle.days(1);
            is(isle.side(0, 1), 7);
            is(isle.side(1, 1), 0);
            isle.carry(0, 2);
            isle.days(181);
            is(isle.side(1, 1), 0);
            isle.days(1);
            is(isle.side(1, 1), 7);
            is(isle.side(0, 1), 7);
        });
        test("Terms, a DAY",
                "by VALUE of each ITEM that is MISSING, by 1 for each WORN that it is WORSE by", () -> {
            // MISSING and WORSE are told behind (a) and (b) of the EQUINOX itself
            HalfIsle isle = isle("item 7 home 0 side 0; day 181", "shift 1; wear 3");
            isle.days(1);
            is(isle.side(0, 1), 10);
            HalfIsle back = isle("item 7 home 0 side 0; day 181", "shift 5");
            back.carry(0, 1);
            back.days(1);
            is(back.side(0, 1), 0);
            HalfIsle stormy = isle("item 7 home 4 side 0; day 181; storm 100");
            stormy.days(1);
            is(stormy.side(0, 1), 2);
        });
        test("Terms, a DAY", "by what SOIL of all ROOMS together is above SOILED (9999 at most)", () -> {
            HalfIsle isle = isle("soil 0 9; soil 5 1; day 181");
            is(isle.due(), 10);
            isle.days(1);
            is(isle.side(0, 1), 10);
            deed(isle, "soil 0 4; soil 5 0; soil 3 6");
            is(isle.due(), 0);
            deed(isle, "soil 3 7; soil 2 1");
            is(isle.due(), 2);
            // less than SOILED takes nothing off what else is owed
            deed(isle, "soil 0 0; soil 2 0; item 7 home 0 side 0; day 363");
            isle.carry(0, 5);
            isle.days(1);
            is(isle.side(1, 1), 7);
        });
        test("Terms, a DAY", "is above SOILED (9999 at most); then", () -> {
            // by the first EQUINOX VALUE and WORN of all, 2376, then VALUE alone, 1188
            HalfIsle isle = isle(lines("item 99 home 0 side 0", 12), "shift 1; wear 1");
            days(isle, 182 * 15);
            is(isle.side(0, 1), 9999);
            is(isle.side(1, 1), 7 * 1188);
            is(isle.trial(400, true), 9999 + 9504);
            days(isle, 182 * 3);
            is(isle.side(0, 1), 9999);
            is(isle.side(1, 1), 9999);
            is(isle.settles(), 0);
        });
        test("Terms, a DAY", "then THE INVENTORY is taken.", () -> {
            HalfIsle isle = isle("item 7 home 0 side 0; worn 0 3; soil 0 9; day 181", "shift 1");
            isle.days(1);
            is(isle.missing(), 0);
            is(isle.item(0, 5), 1);
            is(isle.item(0, 6), 3);
            is(isle.count(7), 9);
            is(isle.due(), 0);
        });
    }

    private static void draws() {
        test("Terms, DRAW", "as an int that goes round; bits 16 to 30 (SEED 1 at first).", () -> {
            is(new HalfIsle().seed(1), 1);
            int[] seeds = {1, 0, -1, Integer.MAX_VALUE, Integer.MIN_VALUE, 1103527590, -1770082073, 77};
            for (int seed : seeds) {
                int first = seed * 1103515245 + 12345;
                int second = first * 1103515245 + 12345;
                int room = (second >>> 16 & 32767) % 6;
                HalfIsle isle = isle(ITEM + " in " + room + "; storm " + ((first >>> 16 & 32767) % 100 + 1));
                isle.seed(seed);
                isle.days(1);
                is(isle.item(0, 2), 2);
                is(isle.seed(0), second);
                HalfIsle calm = isle(ITEM + " in " + room + "; storm " + (first >>> 16 & 32767) % 100);
                calm.seed(seed);
                calm.days(1);
                is(calm.item(0, 2), 0);
                is(calm.seed(0), first);
            }
        });
        test("Promise 51 seed", "SEED: what it was.", () -> {
            HalfIsle isle = new HalfIsle();
            is(isle.seed(Integer.MIN_VALUE), 1);
            is(isle.seed(Integer.MAX_VALUE), Integer.MIN_VALUE);
            is(isle.seed(0), Integer.MAX_VALUE);
            is(isle.seed(-1), 0);
            is(isle.seed(5), -1);
            is(isle.undo(), false);
        });
    }

    /** On DAY 181 + 182 N each ITEM so far is MISSING, as each half year is 2 ROOMS. */
    private static HalfIsle left(int equinoxes) {
        HalfIsle isle = isle("item 3 home 0 side 0", "shift 1");
        int first = Math.min(equinoxes, 54);
        days(isle, 182 * first);
        if (equinoxes > 54) {
            deed(isle, "day 0");
            days(isle, 182 * (equinoxes - 54));
        }
        return isle;
    }

    private static void logs() {
        test("Terms, THE LOG", "THE LOG: the latest 60 EQUINOXES", () -> {
            HalfIsle sixty = left(60);
            is(sixty.count(10), 60);
            is(sixty.log(59, 0), 181);
            is(sixty.log(0, 0), 181 + 182 * 5);
            is(sixty.log(60, 0), HalfIsle.NONE);
            is(sixty.led(0, false), 30);
            // the 61st is in the place of the first, and out of it once more
            is(sixty.days(182), 1);
            is(sixty.log(59, 0), 363);
            is(sixty.undo(), true);
            is(sixty.log(0, 0), 181 + 182 * 5);
            is(sixty.log(59, 0), 181);
            sixty.image();
            is(sixty.days(364), 2);
            is(sixty.log(59, 0), 545);
            is(sixty.back(), true);
            is(sixty.log(0, 0), 181 + 182 * 5);
            is(sixty.log(59, 0), 181);
            is(sixty.days(182), 1);
            is(sixty.count(10), 60);
            is(sixty.log(0, 0), 181 + 182 * 6);
            is(sixty.log(59, 0), 363);
            is(sixty.log(60, 0), HalfIsle.NONE);
            is(sixty.led(0, false), 30);
            is(sixty.led(0, true), 90);
            // the 60 latest of many, from the 121st on once more round
            days(sixty, 182 * 40);
            deed(sixty, "day 0");
            days(sixty, 182 * 20);
            is(sixty.count(10), 60);
            is(sixty.log(19, 0), 181);
            is(sixty.log(20, 0), 181 + 182 * 46);
            is(sixty.log(59, 0), 181 + 182 * 7);
        });
        test("Terms, THE LOG",
                "DAY, the SIDE that left, how many ITEMS were MISSING, what it OWED more.", () -> {
            HalfIsle isle = isle(lines("item 99 home 0 side 0", 12), "shift 1; wear 1 if day < 1");
            isle.days(364);
            int[] first = {181, 0, 12, 12 * 100};
            int[] second = {363, 1, 12, 12 * 100};
            for (int what = 0; what < 4; what++) {
                is(isle.log(1, what), first[what]);
                is(isle.log(0, what), second[what]);
            }
            law(isle, "");
            isle.days(182);
            is(isle.log(0, 2), 0);
            is(isle.log(0, 3), 0);
        });
        test("Terms, LED, 49 led",
                "LED by THE LOG: how often a SIDE left; what it OWED more by these together.", () -> {
            // what THE LOG has no more counts no more: SIDE 0 OWED 7 at the first EQUINOX alone
            HalfIsle isle = isle("item 7 home 0 side 1; day 181");
            isle.carry(0, 1);
            isle.days(1);
            deed(isle, "day 0");
            days(isle, 182 * 54);
            deed(isle, "day 0");
            days(isle, 182 * 5);
            is(isle.count(10), 60);
            is(isle.led(0, false), 31);
            is(isle.led(0, true), 7);
            is(isle.led(1, false), 29);
            is(isle.led(1, true), 0);
            isle.days(182);
            is(isle.led(0, false), 30);
            is(isle.led(0, true), 0);
            is(isle.led(1, false), 30);
            is(isle.side(0, 1), 7);
        });
        test("Promise 50 log", "THE LOG so many ago (0 the latest)", () -> {
            HalfIsle isle = isle("day 363");
            isle.days(1);
            is(isle.log(0, 0), 363);
            is(isle.log(0, 1), 1);
            isle.days(182);
            is(isle.log(0, 0), 545);
            is(isle.log(0, 1), 0);
            is(isle.log(1, 0), 363);
            is(isle.log(1, 1), 1);
            is(isle.log(2, 0), HalfIsle.NONE);
        });
        test("Promise 50 log", "NONE without.", () -> {
            HalfIsle isle = new HalfIsle();
            is(isle.log(0, 0), HalfIsle.NONE);
            is(isle.log(0, 3), HalfIsle.NONE);
            isle.days(182);
            is(isle.log(0, 0), 181);
            is(isle.log(1, 0), HalfIsle.NONE);
            is(isle.log(-1, 0), HalfIsle.NONE);
            is(isle.log(60, 0), HalfIsle.NONE);
            is(isle.log(Integer.MAX_VALUE, 0), HalfIsle.NONE);
            is(isle.log(Integer.MIN_VALUE, 0), HalfIsle.NONE);
        });
        test("Promise 50 log", "NoSuchElementException: another what.", () -> {
            HalfIsle isle = isle("day 181");
            nothing(() -> isle.log(0, 4));
            nothing(() -> isle.log(0, -1));
            isle.days(1);
            is(isle.log(0, 3), 0);
            nothing(() -> isle.log(0, 4));
            nothing(() -> isle.log(0, -1));
            nothing(() -> isle.log(0, Integer.MAX_VALUE));
            nothing(() -> isle.log(0, Integer.MIN_VALUE));
        });
    }

    private static void calls() {
        test("Promise 17 days", "So many DAYS more (1 to 400): how many EQUINOXES.", () -> {
            HalfIsle isle = isle("day 180");
            is(isle.days(1), 0);
            is(isle.count(3), 181);
            is(isle.days(1), 1);
            is(isle.days(181), 0);
            is(isle.days(1), 1);
            is(isle.count(3), 364);
            is(isle.days(400), 2);
            is(isle.count(3), 764);
            is(isle("day 181").days(400), 3);
            is(isle("day 146").days(400), 3);
            is(isle("day 145").days(400), 2);
        });
        test("Promise 17 days", "IllegalArgumentException: they are none.", () -> {
            HalfIsle isle = new HalfIsle();
            none(() -> isle.days(0));
            none(() -> isle.days(401));
            none(() -> isle.days(-1));
            none(() -> isle.days(Integer.MIN_VALUE));
            none(() -> isle.days(Integer.MAX_VALUE));
            is(isle.count(3), 0);
            is(isle.seed(1), 1);
            is(isle.count(11), 0);
        });
        test("Promise 49 led", "LED: how often (owed false), or what it OWED more.", () -> {
            HalfIsle isle = isle("item 7 home 0 side 0; day 181");
            is(isle.led(0, false), 0);
            is(isle.led(0, true), 0);
            isle.carry(0, 1);
            isle.days(1);
            is(isle.led(0, false), 1);
            is(isle.led(0, true), 7);
            is(isle.led(1, false), 0);
            is(isle.led(1, true), 0);
            // what is paid has been owed all the same
            isle.pay(0, 7);
            isle.days(364);
            is(isle.led(0, false), 2);
            is(isle.led(0, true), 7);
            is(isle.led(1, false), 1);
            outside(() -> isle.led(2, false));
            outside(() -> isle.led(-1, true));
        });
    }
}
