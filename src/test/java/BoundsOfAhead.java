/** Boundary cases of what is ahead: promises 18, 23 to 25 and 34 to 38. */
final class BoundsOfAhead extends Bounds {
    // From DAY 0 on the 400th DAY is DAY 399: then 'day' is 35, and two EQUINOXES have worn the ITEM.
    private static final String COUNTS = "wear 1 if day > 180; ";
    private static final String ON_400TH = COUNTS + "shift 1 if item < 1 and worn > 1 and day > 34 and day < 36";
    private static final String ON_401ST = COUNTS + "shift 1 if item < 1 and worn > 1 and day > 35 and day < 37";
    private static final String ITEM = "item 5 home 0 side 0";

    static void test() {
        ahead();
        first();
        round();
        worst();
        wearing();
        meets();
        visits();
        crowd();
        stays();
    }

    private static void ahead() {
        test("Terms, AHEAD, 18 ahead", "AHEAD by N DAYS (0 to 400): as so many DAYS without (b).", () -> {
            HalfIsle isle = isle(ITEM + " in 4; storm 100; day 180", "wear 1; shift 6");
            is(isle.ahead(0, 0, 1), 0);
            is(isle.ahead(0, 1, 1), 1);
            is(isle.ahead(0, 98, 1), 98);
            is(isle.ahead(0, 400, 1), 99);
            is(isle.count(3), 180);
            is(isle.seed(1), 1);
            is(isle.item(0, 2), 0);
            // with the EQUINOXES: MISSING till the INVENTORY is taken
            isle.carry(0, 0);
            is(isle.ahead(0, 0, 2), 1);
            is(isle.ahead(0, 1, 2), 1);
            is(isle.ahead(0, 2, 2), 0);
            is(isle.count(10), 0);
        });
        test("Terms, AHEAD", "as so many DAYS without (b).", () -> {
            // a STORM would wear the first one in ROOM 4 on the first DAY, and so move it
            HalfIsle isle = isle(ITEM + " in 4;" + ITEM + " in 5; storm 100", "shift 1 if worn > 0");
            is(isle.trial(1, false), 2);
            is(isle.first(false), HalfIsle.NONE);
            is(isle.round(), 1);
            is(isle.worst(400), 0);
            is(isle.wearing(0), 0);
            is(isle.meets(0, 1), HalfIsle.NONE);
            is(isle.visits(0, 60), 16);
            is(isle.crowd(400), 1);
            is(isle.stays(0), HalfIsle.NONE);
            is(isle.ahead(0, 400, 0), 4);
            HalfIsle back = isle(ITEM + " in 4; storm 100", "shift 1 if day < 1; shift 5 if worn > 0");
            is(back.round(), HalfIsle.NONE);
            is(back.seed(1), 1);
        });
        test("Promise 18 ahead", "IllegalArgumentException: N is none", () -> {
            HalfIsle isle = isle(ITEM + " in 2", "shift 1");
            none(() -> isle.ahead(0, -1, 0));
            none(() -> isle.ahead(0, 401, 0));
            none(() -> isle.ahead(0, Integer.MIN_VALUE, 0));
            none(() -> isle.ahead(0, Integer.MAX_VALUE, 0));
            is(isle.ahead(0, 0, 0), 2);
            is(isle.ahead(0, 400, 0), 0);
        });
        test("Promise 18 ahead", "NoSuchElementException: another what.", () -> {
            HalfIsle isle = isle(ITEM);
            for (int what = 0; what < 3; what++) {
                is(isle.ahead(0, 400, what), 0);
            }
            nothing(() -> isle.ahead(0, 0, 3));
            nothing(() -> isle.ahead(0, 0, -1));
            nothing(() -> isle.ahead(0, 400, Integer.MAX_VALUE));
            nothing(() -> isle.ahead(0, 400, Integer.MIN_VALUE));
        });
    }

    private static void first() {
        test("Terms, FIRST, 23 first", "FIRST: the first N (0 to 400) AHEAD by which some ITEM is MISSING", () -> {
            HalfIsle isle = isle(ITEM + ";" + ITEM);
            isle.carry(1, 5);
            is(isle.first(false), 0);
            is(isle.first(true), 1);
            isle.carry(1, 0);
            law(isle, "shift 1 if day < 1");
            is(isle.first(false), 1);
            law(isle, ON_400TH);
            is(isle.first(false), 400);
            is(isle.first(true), 0);
        });
        test("Terms, FIRST", "how many; the ITEM (of several the least); none.", () -> {
            HalfIsle isle = isle(lines(ITEM, 12));
            for (int i = 11; i > 0; i--) {
                isle.carry(i, 1);
                is(isle.first(true), i);
            }
            HalfIsle later = isle(lines(ITEM, 12), "shift 1 if day > 8 and item > 6");
            is(later.first(false), 10);
            is(later.first(true), 7);
        });
        test("Promise 23 first", "FIRST: how many DAYS (item false), or the ITEM; NONE.", () -> {
            HalfIsle isle = new HalfIsle();
            is(isle.first(false), HalfIsle.NONE);
            is(isle.first(true), HalfIsle.NONE);
            deed(isle, ITEM);
            law(isle, "shift 6; wear 20; soil 20");
            is(isle.first(false), HalfIsle.NONE);
            is(isle.first(true), HalfIsle.NONE);
            law(isle, ON_401ST);
            is(isle.first(false), HalfIsle.NONE);
            is(isle.first(true), HalfIsle.NONE);
        });
    }

    private static void round() {
        test("Terms, ROUND, 24 round", "ROUND: the least P (1 to 60) by which all ITEMS are in the same ROOMS", () -> {
            is(isle(ITEM).round(), 1);
            is(isle(ITEM, "shift 6").round(), 1);
            is(isle(ITEM, "shift 3").round(), 2);
            is(isle(ITEM, "shift 1").round(), 6);
            // away on the first DAY, back on the 60th
            is(isle(ITEM, "shift 1 if day < 1; shift 5 if day > 58").round(), 60);
            // all of them at once: one is back by 2 DAYS, one by 3
            is(isle(ITEM + ";" + ITEM, "shift 3 if item < 1; shift 2 if item > 0").round(), 6);
            is(new HalfIsle().round(), 1);
            // from as it is now on, whatever was asked for, and done, ahead of it
            HalfIsle isle = isle(ITEM, "shift 1 if day < 1; shift 2 if day > 0");
            isle.carry(0, 5);
            is(isle.ahead(0, 3, 0), 4);
            is(isle.round(), HalfIsle.NONE);
            isle.days(1);
            is(isle.round(), 3);
        });
        test("Promise 24 round", "ROUND; NONE.", () -> {
            is(isle(ITEM, "shift 1 if day < 1; shift 5 if day > 59").round(), HalfIsle.NONE);
            is(isle(ITEM, "shift 1 if day < 1").round(), HalfIsle.NONE);
            is(isle(ITEM + ";" + ITEM, "shift 1 if item > 0 and day < 1").round(), HalfIsle.NONE);
        });
    }

    private static void worst() {
        test("Terms, WORST AHEAD, 25 worst", "the ITEM that is WORN most (of several the least; none without).", () -> {
            is(new HalfIsle().worst(0), HalfIsle.NONE);
            is(new HalfIsle().worst(400), HalfIsle.NONE);
            HalfIsle isle = isle(lines(ITEM, 3));
            is(isle.worst(0), 0);
            deed(isle, "worn 1 7; worn 2 7");
            is(isle.worst(0), 1);
            law(isle, "wear 1 if item > 1");
            is(isle.worst(0), 1);
            is(isle.worst(1), 2);
            // at 99 they are alike once more
            law(isle, "wear 20; wear 1 if item > 1");
            is(isle.worst(400), 0);
        });
        test("Promise 25 worst", "IllegalArgumentException: N is none.", () -> {
            HalfIsle isle = isle(ITEM);
            none(() -> isle.worst(-1));
            none(() -> isle.worst(401));
            none(() -> isle.worst(Integer.MIN_VALUE));
            is(isle.worst(0), 0);
            is(isle.worst(400), 0);
        });
    }

    private static void wearing() {
        test("Terms, WEARING, 34 wearing", "as there are to the next EQUINOX, that DAY too, than now.", () -> {
            String deed = ITEM + "; day ";
            int[] days = {0, 1, 180, 181, 182, 363, 364};
            int[] ofAll = {99, 99, 2, 1, 99, 1, 99};
            int[] ofLast = {1, 1, 1, 1, 1, 1, 1};
            int[] ofFirst = {1, 0, 0, 0, 1, 0, 1};
            for (int i = 0; i < days.length; i++) {
                is(isle(deed + days[i], "wear 1").wearing(0), ofAll[i]);
                is(isle(deed + days[i], "wear 1 if day > 180").wearing(0), ofLast[i]);
                is(isle(deed + days[i], "wear 1 if day < 1").wearing(0), ofFirst[i]);
            }
            // not more than up to 99, and without a STORM
            is(isle(ITEM + " in 4; worn 0 95; storm 100", "wear 1").wearing(0), 4);
            is(isle(ITEM + " in 4; worn 0 99; storm 100", "wear 1").wearing(0), 0);
            is(isle(ITEM + " in 4; storm 100; day 181").wearing(0), 0);
        });
        test("Promise 34 wearing", "WEARING.", () -> {
            HalfIsle isle = isle(ITEM, "wear 20");
            is(isle.wearing(0), 99);
            outside(() -> isle.wearing(1));
            outside(() -> isle.wearing(-1));
        });
    }

    private static void meets() {
        test("Terms, MEETS, 35 meets", "MEETS: the first N (0 to 400) AHEAD by which two ITEMS are in one ROOM; none.", () -> {
            HalfIsle isle = isle(ITEM + ";" + ITEM + " in 1;" + ITEM + " in 1", ON_400TH);
            is(isle.meets(1, 2), 0);
            is(isle.meets(0, 1), 400);
            is(isle.meets(2, 0), 400);
            law(isle, "shift 1 if item < 1 and day < 1");
            is(isle.meets(0, 1), 1);
            law(isle, ON_401ST);
            is(isle.meets(0, 1), HalfIsle.NONE);
        });
        test("Promise 35 meets", "MEETS; NONE. IllegalArgumentException: both are one.", () -> {
            HalfIsle isle = isle(ITEM + ";" + ITEM + " in 3", "shift 1");
            is(isle.meets(0, 1), HalfIsle.NONE);
            none(() -> isle.meets(0, 0));
            none(() -> isle.meets(1, 1));
            outside(() -> isle.meets(2, 2));
            outside(() -> isle.meets(0, 2));
            outside(() -> isle.meets(2, 0));
            outside(() -> isle.meets(-1, -1));
        });
    }

    private static void visits() {
        test("Terms, VISITS, 36 visits", "AHEAD by 0, 1, .. N DAYS (N 0 to 60), as bits.", () -> {
            HalfIsle isle = isle(ITEM + " in 5", "shift 1");
            is(isle.visits(0, 0), 32);
            is(isle.visits(0, 1), 33);
            is(isle.visits(0, 4), 32 + 15);
            is(isle.visits(0, 5), 63);
            is(isle.visits(0, 60), 63);
            // on the 60th DAY alone, then on the one behind it
            law(isle, "shift 1 if day > 58");
            is(isle.visits(0, 59), 32);
            is(isle.visits(0, 60), 33);
            law(isle, "shift 1 if day > 59");
            is(isle.visits(0, 60), 32);
        });
        test("Promise 36 visits", "IllegalArgumentException: N is none.", () -> {
            HalfIsle isle = isle(ITEM);
            none(() -> isle.visits(0, -1));
            none(() -> isle.visits(0, 61));
            none(() -> isle.visits(0, Integer.MIN_VALUE));
            none(() -> isle.visits(0, Integer.MAX_VALUE));
            is(isle.visits(0, 0), 1);
            is(isle.visits(0, 60), 1);
            outside(() -> isle.visits(1, 61));
        });
    }

    private static void crowd() {
        test("Terms, CROWD, 37 crowd", "CROWD AHEAD by N DAYS (0 to 400): the most ITEMS in one ROOM.", () -> {
            is(new HalfIsle().crowd(0), 0);
            is(new HalfIsle().crowd(400), 0);
            is(isle(lines(ITEM, 12)).crowd(0), 12);
            HalfIsle isle = isle(ITEM + ";" + ITEM + " in 1;" + ITEM + " in 1", ON_400TH);
            is(isle.crowd(0), 2);
            is(isle.crowd(399), 2);
            is(isle.crowd(400), 3);
            is(isle(ITEM + " in 5;" + ITEM + " in 5").crowd(0), 2);
        });
        test("Promise 37 crowd", "IllegalArgumentException: N is none.", () -> {
            HalfIsle isle = isle(ITEM);
            none(() -> isle.crowd(-1));
            none(() -> isle.crowd(401));
            none(() -> isle.crowd(Integer.MAX_VALUE));
            is(isle.crowd(400), 1);
        });
    }

    private static void stays() {
        test("Terms, STAYS, 38 stays",
                "STAYS: the first N (1 to 400) AHEAD by which an ITEM is not in the ROOM where it is now; none.", () -> {
            HalfIsle isle = isle(ITEM + ";" + ITEM, "shift 1 if item < 1");
            is(isle.stays(0), 1);
            is(isle.stays(1), HalfIsle.NONE);
            law(isle, ON_400TH);
            is(isle.stays(0), 400);
            law(isle, ON_401ST);
            is(isle.stays(0), HalfIsle.NONE);
            // it need not be FOUND where it is now
            isle.carry(1, 3);
            is(isle.stays(1), HalfIsle.NONE);
        });
        test("Promise 38 stays", "STAYS; NONE.", () -> {
            HalfIsle isle = isle(ITEM, "shift 6");
            is(isle.stays(0), HalfIsle.NONE);
            outside(() -> isle.stays(1));
            outside(() -> isle.stays(-1));
        });
    }
}
