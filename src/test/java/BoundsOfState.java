import java.util.function.IntUnaryOperator;

/** Boundary cases of ROOMS, ITEMS and SIDES as they are: promises 7 to 9, 11, 19 to 22, 40, 41, 43 and 55. */
final class BoundsOfState extends Bounds {
    private static final String ITEM = "item 5 home 0 side 0";

    static void test() {
        rooms();
        items();
        sides();
        year();
        inventory();
        work();
        needs();
        sets();
        roomSets();
        calls();
    }

    private static void rooms() {
        test("Terms, ROOMS", "ROOMS 0 to 5", () -> {
            HalfIsle isle = isle(ITEM);
            is(isle.room(0, 2), 1);
            is(isle.room(5, 2), 0);
            is(isle.carry(0, 5), 0);
            is(isle.room(5, 2), 1);
            outside(() -> isle.room(6, 2));
            outside(() -> isle.room(-1, 2));
        });
        test("Terms, ROOMS, 11 steps", "in a round (5 and 0 are beside one another, too)", () -> {
            HalfIsle isle = isle(ITEM + " in 5", "shift 1");
            is(isle.steps(5, 0), 1);
            is(isle.steps(0, 5), 1);
            is(isle.ahead(0, 1, 0), 0);
        });
        test("Terms, SOIL", "SOIL 0 to 99 (0 at first)", () -> {
            HalfIsle isle = new HalfIsle();
            for (int room = 0; room < 6; room++) {
                is(isle.room(room, 0), 0);
            }
            deed(isle, "soil 3 99; soil 4 99; soil 4 0");
            is(isle.room(3, 0), 99);
            is(isle.room(4, 0), 0);
            wrongDeed(isle, "soil 3 100", 7);
        });
        test("Terms, PLACES", "PLACES 0 to 12 (12 at first)", () -> {
            HalfIsle isle = new HalfIsle();
            for (int room = 0; room < 6; room++) {
                is(isle.room(room, 1), 12);
            }
            deed(isle, "places 3 0; places 4 1; places 4 12");
            is(isle.room(3, 1), 0);
            is(isle.room(4, 1), 12);
            wrongDeed(isle, "places 3 13", 9);
        });
    }

    private static void items() {
        test("Terms, WORN", "WORN 0 to 99 (0 at first)", () -> {
            HalfIsle isle = isle(ITEM, "wear 20");
            is(isle.item(0, 2), 0);
            is(isle.mend(0), 0);
            is(isle.days(4), 0);
            is(isle.item(0, 2), 80);
            is(isle.days(1), 0);
            is(isle.item(0, 2), 99);
            is(isle.days(1), 0);
            is(isle.item(0, 2), 99);
        });
        test("Terms, ITEMS", "numbered from 0 on", () -> {
            HalfIsle isle = isle(lines(ITEM, 3));
            is(isle.item(2, 3), 5);
            outside(() -> isle.item(3, 3));
            outside(() -> isle.item(-1, 3));
            outside(() -> isle.item(12, 3));
            outside(() -> isle.item(Integer.MAX_VALUE, 3));
            outside(() -> isle.item(Integer.MIN_VALUE, 3));
        });
    }

    private static void sides() {
        test("Terms, SIDES", "SIDES 0 (people), 1 (birds)", () -> {
            HalfIsle isle = isle(ITEM + "; item 5 home 0 side 1");
            is(isle.side(0, 2), 1);
            is(isle.side(1, 2), 2);
            outside(() -> isle.side(2, 2));
            outside(() -> isle.side(-1, 2));
        });
        test("Terms, HANDS", "HANDS 0 to 20 (1 at first)", () -> {
            HalfIsle isle = new HalfIsle();
            is(isle.side(0, 0), 1);
            is(isle.side(1, 0), 1);
            deed(isle, "hands 0 20; hands 1 0");
            is(isle.side(0, 0), 20);
            is(isle.side(1, 0), 0);
            wrongDeed(isle, "hands 0 21", 8);
        });
        test("Terms, OWES", "OWES 0 to 9999 (0 at first)", () -> {
            // 12 times 99 are owed at each EQUINOX, as 182 DAYS are 2 ROOMS on
            HalfIsle isle = isle(lines("item 99 home 0 side 0", 12), "shift 1");
            is(isle.side(0, 1), 0);
            is(isle.side(1, 1), 0);
            is(days(isle, 16 * 182), 16);
            is(isle.side(0, 1), 8 * 1188);
            is(isle.side(1, 1), 8 * 1188);
            is(days(isle, 182), 1);
            is(isle.side(0, 1), 9999);
            is(days(isle, 364), 2);
            is(isle.side(0, 1), 9999);
            is(isle.side(1, 1), 9999);
            is(isle.pay(0, 9999), 0);
            is(days(isle, 364), 2);
            is(isle.side(0, 1), 1188);
        });
        test("Terms, STORM", "STORM 0 to 100 (0 at first)", () -> {
            HalfIsle isle = new HalfIsle();
            is(isle.count(5), 0);
            deed(isle, "storm 100");
            is(isle.count(5), 100);
            wrongDeed(isle, "storm 101", 6);
            deed(isle, "storm 0");
            is(isle.count(5), 0);
        });
    }

    private static void year() {
        test("Terms, DAY", "DAY: 0 at first.", () -> {
            is(new HalfIsle().count(3), 0);
            is(isle(ITEM).count(3), 0);
        });
        test("Terms, THERE", "THERE: SIDE 0, if DAY modulo 364 is below 182, else SIDE 1", () -> {
            int[] days = {0, 181, 182, 363, 364, 545, 546, 727, 728};
            int[] there = {0, 0, 1, 1, 0, 0, 1, 1, 0};
            for (int i = 0; i < days.length; i++) {
                is(isle("day " + days[i]).count(4), there[i]);
            }
        });
        test("Terms, EQUINOX", "EQUINOX: DAY modulo 182 is 181", () -> {
            int[] days = {0, 180, 181, 182, 362, 363, 364, 545, 909};
            int[] equinoxes = {0, 0, 1, 0, 0, 1, 0, 1, 1};
            for (int i = 0; i < days.length; i++) {
                is(isle("day " + days[i]).days(1), equinoxes[i]);
            }
        });
        test("Terms, SOILED", "that THE INVENTORY has (0 at first)", () -> {
            HalfIsle isle = isle("soil 0 99; soil 5 1");
            is(isle.count(7), 0);
            is(isle.count(6), 100);
            isle.take();
            is(isle.count(7), 100);
            isle.sweep(0);
            is(isle.count(7), 100);
            is(isle.count(6), 1);
        });
    }

    private static void inventory() {
        test("Terms, 19 missing", "MISSING: its ROOM is not that of FOUND.", () -> {
            HalfIsle isle = isle("item 5 home 0 side 0 in 3; item 5 home 0 side 0");
            is(isle.missing(), 0);
            is(isle.item(0, 7), 0);
            isle.carry(0, 0);
            isle.carry(1, 1);
            is(isle.missing(), 3);
            is(isle.item(0, 7), 1);
            isle.carry(0, 3);
            is(isle.missing(), 2);
        });
        test("Terms, WORSE, 20 worse", "WORSE by: WORN less that of FOUND (0 at least).", () -> {
            HalfIsle isle = isle("item 5 home 0 side 0; item 5 home 0 side 0; worn 0 1; worn 1 7");
            is(isle.worse(), 3);
            is(isle.item(0, 8), 1);
            isle.take();
            is(isle.worse(), 0);
            is(isle.item(1, 8), 0);
            isle.mend(1);
            is(isle.item(1, 8), 0);
            is(isle.worse(), 0);
            is(isle.due(), 0);
            is(isle.work(), 0);
        });
        test("Terms, 21 mislaid", "MISLAID: ITEMS that are not at HOME, as bits.", () -> {
            HalfIsle isle = isle("item 5 home 0 side 0 in 3; item 5 home 0 side 0");
            is(isle.mislaid(), 1);
            isle.take();
            is(isle.mislaid(), 1);
            isle.carry(0, 0);
            is(isle.mislaid(), 0);
        });
    }

    private static void work() {
        test("Terms, STEPS, 11 steps", "the fewer of both ways round.", () -> {
            int[] steps = {0, 1, 2, 3, 2, 1};
            for (int room = 0; room < 6; room++) {
                for (int other = 0; other < 6; other++) {
                    is(new HalfIsle().steps(room, other), steps[(other - room + 6) % 6]);
                }
            }
        });
        test("Terms, WORK of an ITEM", "a fifth of what it is WORSE by, rounded up.", () -> {
            int[] worse = {0, 1, 4, 5, 6, 10, 11, 95, 96, 99};
            int[] works = {0, 1, 1, 1, 2, 2, 3, 19, 20, 20};
            for (int i = 0; i < worse.length; i++) {
                HalfIsle isle = isle(ITEM + "; worn 0 " + worse[i]);
                is(isle.item(0, 9), works[i]);
                isle.carry(0, 5);
                is(isle.item(0, 9), works[i] + 1);
            }
        });
        test("Terms, WORK of all, 22 work", "of each ROOM a tenth of SOIL, rounded up.", () -> {
            int[] soils = {0, 1, 9, 10, 11, 90, 91, 99};
            int[] works = {0, 1, 1, 1, 2, 9, 10, 10};
            for (int i = 0; i < soils.length; i++) {
                is(isle("soil 5 " + soils[i]).work(), works[i]);
                is(isle("soil 0 " + soils[i] + "; soil 3 " + soils[i]).work(), 2 * works[i]);
            }
        });
        test("Terms, WORK of all", "WORK of all: of all ITEMS together", () -> {
            is(new HalfIsle().work(), 0);
            // each ITEM by itself: 12 times a fifth of 1, rounded up
            StringBuilder worn = new StringBuilder("worn 0 1");
            for (int i = 1; i < 12; i++) {
                worn.append("; worn ").append(i).append(" 1");
            }
            HalfIsle isle = isle(lines(ITEM, 12));
            is(isle.work(), 0);
            deed(isle, worn.toString());
            is(isle.work(), 12);
        });
    }

    private static void needs() {
        test("Terms, NEEDS", "WORK of all by HANDS, in DAYS, rounded up (0 without WORK)", () -> {
            int[] hands = {1, 2, 3, 4, 9, 10, 11, 20};
            int[] needs = {10, 5, 4, 3, 2, 1, 1, 1};
            for (int i = 0; i < hands.length; i++) {
                HalfIsle isle = isle("soil 5 99; hands 1 " + hands[i]);
                is(isle.side(1, 3), needs[i]);
                isle.sweep(5);
                is(isle.side(1, 3), 0);
            }
        });
        test("Terms, NEEDS", "none without HANDS", () -> {
            HalfIsle isle = isle("soil 5 1; hands 1 0");
            is(isle.side(1, 3), HalfIsle.NONE);
            is(isle.side(0, 3), 1);
            is(isle.side(1, 4), HalfIsle.NONE);
        });
        test("Terms, LATEST", "with the next EQUINOX as the last of these", () -> {
            // 10 DAYS of WORK, with 182 DAYS left on DAY 0, and 1 on the EQUINOX itself
            int[] days = {0, 1, 171, 172, 182, 354, 364};
            int[] latest = {172, 171, 1, 0, 172, 0, 172};
            for (int i = 0; i < days.length; i++) {
                HalfIsle isle = isle("soil 5 99; day " + days[i]);
                is(isle.side(0, 4), latest[i]);
                is(isle.side(1, 4), latest[i]);
            }
            is(isle("soil 5 1; day 181").side(0, 4), 0);
            is(isle("soil 5 1; day 182").side(0, 4), 181);
            is(isle("day 181").side(0, 4), 1);
            is(new HalfIsle().side(1, 4), 182);
        });
        test("Terms, LATEST", "none, if there are not so many left.", () -> {
            is(isle("soil 5 99; day 172").side(0, 4), 0);
            is(isle("soil 5 99; day 173").side(0, 4), HalfIsle.NONE);
            is(isle("soil 5 99; day 181").side(0, 4), HalfIsle.NONE);
            is(isle("soil 5 11; day 181").side(0, 4), HalfIsle.NONE);
            is(isle("soil 5 11; day 363; hands 1 2").side(1, 4), 0);
        });
    }

    private static void sets() {
        test("Terms, sets", "Sets are bits; of none they count for nothing.", () -> {
            HalfIsle isle = new HalfIsle();
            is(isle.missing() + isle.worse() + isle.mislaid() + isle.clash() + isle.full(), 0);
            is(isle.room(0, 2) + isle.room(0, 3) + isle.side(0, 2), 0);
            is(isle.saves(99, false) + isle.lighten(0) + isle.parted(true), 0);
            HalfIsle all = isle(lines("item 5 home 5 side 1", 12));
            is(all.room(5, 3), 4095);
            is(all.side(1, 2), 4095);
            is(all.full(), 32);
        });
    }

    private static void roomSets() {
        test("Terms, 40 clash", "CLASH: ROOMS that are HOME of more ITEMS than they have PLACES, as bits.", () -> {
            HalfIsle isle = isle(lines("item 5 home 5 side 0 in 1", 2) + "; places 5 2; places 1 0; places 0 0");
            is(isle.clash(), 0);
            deed(isle, "places 5 1");
            is(isle.clash(), 32);
            deed(isle, "item 5 home 0 side 0");
            is(isle.clash(), 33);
            HalfIsle most = isle(lines("item 5 home 0 side 0", 12));
            is(most.clash(), 0);
            deed(most, "places 0 11");
            is(most.clash(), 1);
        });
        test("Terms, 41 full", "FULL: ROOMS in which there are as many ITEMS as PLACES at least, as bits.", () -> {
            HalfIsle isle = isle(lines("item 5 home 0 side 0 in 5", 2) + "; places 5 3");
            is(isle.full(), 0);
            deed(isle, "places 5 2");
            is(isle.full(), 32);
            deed(isle, "places 5 1");
            is(isle.full(), 32);
            deed(isle, "places 3 0");
            is(isle.full(), 32 + 8);
            isle.carry(0, 4);
            isle.carry(1, 4);
            is(isle.full(), 8);
            isle.carry(0, 0);
            deed(isle, "places 0 1; places 4 2");
            is(isle.full(), 8 + 1);
        });
        test("Terms, 43 richest",
                "RICHEST ROOM: where VALUE of all ITEMS together is the most (of several the least).", () -> {
            is(new HalfIsle().richest(), 0);
            HalfIsle isle = isle("item 9 home 0 side 0 in 5; item 4 home 0 side 0 in 3; item 5 home 0 side 1 in 3");
            is(isle.richest(), 3);
            isle.carry(2, 4);
            is(isle.richest(), 5);
            isle.carry(1, 4);
            is(isle.richest(), 4);
            isle.carry(0, 0);
            isle.carry(2, 3);
            is(isle.richest(), 0);
        });
    }

    /** Another what: one below 0, one above the last one; a wrong number of an ITEM, ROOM or SIDE goes first. */
    private static void otherWhat(IntUnaryOperator call, int whats) {
        for (int what = 0; what < whats; what++) {
            is(call.applyAsInt(what) >= HalfIsle.NONE, true);
        }
        nothing(() -> call.applyAsInt(whats));
        nothing(() -> call.applyAsInt(-1));
        nothing(() -> call.applyAsInt(Integer.MAX_VALUE));
        nothing(() -> call.applyAsInt(Integer.MIN_VALUE));
    }

    private static void calls() {
        test("Promise 7 item", "NoSuchElementException: another what.", () -> {
            HalfIsle isle = isle(ITEM);
            otherWhat(what -> isle.item(0, what), 10);
            outside(() -> isle.item(1, 10));
            outside(() -> isle.item(-1, -1));
        });
        test("Promise 8 room", "NoSuchElementException: another what.", () -> {
            HalfIsle isle = isle(ITEM);
            otherWhat(what -> isle.room(5, what), 4);
            outside(() -> isle.room(6, 4));
            outside(() -> isle.room(-1, -1));
        });
        test("Promise 9 side", "NoSuchElementException: another what.", () -> {
            HalfIsle isle = isle(ITEM);
            otherWhat(what -> isle.side(1, what), 5);
            outside(() -> isle.side(2, 5));
            outside(() -> isle.side(-1, -1));
        });
        test("Promise 9 side", "3 NEEDS (NONE), 4 LATEST (NONE)", () -> {
            HalfIsle isle = isle("soil 0 1; hands 0 0; day 181");
            is(isle.side(0, 3), HalfIsle.NONE);
            is(isle.side(0, 4), HalfIsle.NONE);
            is(isle.side(1, 3), 1);
            is(isle.side(1, 4), 0);
        });
        test("Promise 11 steps", "STEPS.", () -> {
            HalfIsle isle = new HalfIsle();
            is(isle.steps(5, 5), 0);
            outside(() -> isle.steps(6, 0));
            outside(() -> isle.steps(0, 6));
            outside(() -> isle.steps(-1, 0));
            outside(() -> isle.steps(0, -1));
            outside(() -> isle.steps(6, 6));
        });
        test("Promise 55 count", "2 LINES of THE LAW (NONE without one)", () -> {
            HalfIsle isle = new HalfIsle();
            is(isle.count(2), HalfIsle.NONE);
            law(isle, "");
            is(isle.count(2), 0);
        });
        test("Promise 55 count", "NONE for another what.", () -> {
            HalfIsle isle = isle(ITEM, "wear 1");
            is(isle.count(12), HalfIsle.NONE);
            is(isle.count(-1), HalfIsle.NONE);
            is(isle.count(Integer.MAX_VALUE), HalfIsle.NONE);
            is(isle.count(Integer.MIN_VALUE), HalfIsle.NONE);
            is(isle.count(11), 0);
            isle.take();
            is(isle.count(11), 1);
        });
        test("Promise 55 count", "7 SOILED, 8 WORN of all together, 9 VALUE of all together, 10 rows of THE LOG", () -> {
            HalfIsle isle = new HalfIsle();
            for (int what = 7; what <= 10; what++) {
                is(isle.count(what), 0);
            }
            deed(isle, lines("item 99 home 0 side 0", 12));
            is(isle.count(9), 1188);
            law(isle, "wear 20; soil 20");
            isle.days(182);
            is(isle.count(8), 1188);
            is(isle.count(7), 99);
            is(isle.count(10), 1);
        });
    }
}
