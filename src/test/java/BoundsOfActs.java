/** Boundary cases of ACTS, of what is refused and of what is undone: promises 12 to 16, 42 and 52. */
final class BoundsOfActs extends Bounds {
    private static final String ITEM = "item 5 home 0 side 0";

    static void test() {
        acts();
        pays();
        takes();
        refusals();
        undone();
        forgotten();
    }

    private static void acts() {
        test("Promise 12 carry", "Carried: the ROOM where it was.", () -> {
            HalfIsle isle = isle(ITEM);
            is(isle.carry(0, 5), 0);
            is(isle.carry(0, 5), 5);
            is(isle.carry(0, 0), 5);
            is(isle.count(11), 3);
            outside(() -> isle.carry(1, 0));
            outside(() -> isle.carry(-1, 0));
            outside(() -> isle.carry(0, 6));
            outside(() -> isle.carry(0, -1));
            is(isle.item(0, 0), 0);
            is(isle.count(11), 3);
        });
        test("Terms, MENDED, 13 mend", "MENDED: WORN is 5 less (0 at least)", () -> {
            int[] worn = {0, 1, 4, 5, 6, 99};
            int[] then = {0, 0, 0, 0, 1, 94};
            for (int i = 0; i < worn.length; i++) {
                HalfIsle isle = isle(ITEM + "; worn 0 " + worn[i]);
                is(isle.mend(0), then[i]);
                is(isle.item(0, 2), then[i]);
            }
        });
        test("Promise 13 mend", "MENDED: WORN then.", () -> {
            HalfIsle isle = isle(ITEM + "; worn 0 7");
            outside(() -> isle.mend(1));
            outside(() -> isle.mend(-1));
            is(isle.count(11), 0);
            is(isle.mend(0), 2);
            is(isle.mend(0), 0);
            is(isle.mend(0), 0);
            is(isle.count(11), 3);
        });
        test("Promise 14 sweep", "Swept: SOIL that it had.", () -> {
            HalfIsle isle = isle("soil 0 99; soil 5 1");
            is(isle.sweep(0), 99);
            is(isle.sweep(0), 0);
            is(isle.sweep(5), 1);
            is(isle.count(6), 0);
            is(isle.count(11), 3);
            outside(() -> isle.sweep(6));
            outside(() -> isle.sweep(-1));
            is(isle.count(11), 3);
        });
    }

    /** SIDE 0 OWES 7. */
    private static HalfIsle owing() {
        HalfIsle isle = isle("item 7 home 0 side 0; day 181");
        isle.carry(0, 1);
        isle.days(1);
        return isle;
    }

    private static void pays() {
        test("Promise 15 pay", "IllegalArgumentException: n is none (1 to what it OWES).", () -> {
            HalfIsle isle = owing();
            none(() -> isle.pay(0, 0));
            none(() -> isle.pay(0, -1));
            none(() -> isle.pay(0, 8));
            none(() -> isle.pay(0, Integer.MIN_VALUE));
            none(() -> isle.pay(0, Integer.MAX_VALUE));
            none(() -> isle.pay(1, 1));
            is(isle.pay(0, 1), 6);
            none(() -> isle.pay(0, 7));
            is(isle.pay(0, 6), 0);
            none(() -> isle.pay(0, 1));
            none(() -> isle.pay(0, 0));
            outside(() -> isle.pay(2, 1));
            outside(() -> isle.pay(-1, 0));
        });
        test("Promise 42 settles", "SETTLES (may be below 0).", () -> {
            HalfIsle isle = isle("item 7 home 0 side 0; day 363");
            is(isle.settles(), 0);
            isle.carry(0, 1);
            isle.days(1);
            is(isle.settles(), -7);
            isle.carry(0, 0);
            isle.days(182);
            is(isle.settles(), 0);
            isle.pay(1, 7);
            is(isle.settles(), 7);
        });
    }

    private static void takes() {
        test("Promise 16 take", "THE INVENTORY is taken: how many ITEMS were MISSING.", () -> {
            HalfIsle isle = isle(lines(ITEM, 12));
            is(isle.take(), 0);
            for (int i = 0; i < 12; i++) {
                isle.carry(i, 5);
            }
            is(isle.take(), 12);
            is(isle.take(), 0);
            is(new HalfIsle().take(), 0);
            is(isle.side(0, 1), 0);
            is(isle.count(10), 0);
        });
        test("Terms, THE INVENTORY, 16 take",
                "FOUND of each ITEM is its ROOM and WORN; SOILED is SOIL of all ROOMS together.", () -> {
            HalfIsle isle = isle("item 5 home 3 side 0; worn 0 99; soil 0 99; soil 5 99");
            isle.carry(0, 5);
            isle.take();
            is(isle.item(0, 1), 3);
            is(isle.item(0, 5), 5);
            is(isle.item(0, 6), 99);
            is(isle.count(7), 198);
            is(isle.due(), 0);
        });
    }

    private static void refusals() {
        test("Terms, refused calls", "Of several exceptions the one told first is thrown", () -> {
            HalfIsle isle = isle(ITEM);
            outside(() -> isle.ahead(1, 401, 3));
            none(() -> isle.ahead(0, 401, 3));
            nothing(() -> isle.ahead(0, 400, 3));
            outside(() -> isle.item(1, 10));
            outside(() -> isle.room(6, 4));
            outside(() -> isle.side(2, 5));
            outside(() -> isle.does(1, 3));
            outside(() -> isle.pay(2, 0));
            outside(() -> isle.meets(1, 1));
            outside(() -> isle.visits(1, 61));
        });
        test("Terms, refused calls",
                "a call that throws changes nothing but the TAPE, where it is used up.", () -> {
            HalfIsle isle = owing();
            isle.image();
            isle.mend(0);
            Checks.feed(isle, "day 5");
            outside(() -> isle.carry(1, 0));
            outside(() -> isle.carry(0, 6));
            outside(() -> isle.mend(1));
            outside(() -> isle.sweep(6));
            none(() -> isle.pay(0, 8));
            none(() -> isle.days(401));
            none(() -> isle.trial(401, true));
            nothing(() -> isle.ahead(0, 400, 3));
            is(isle.end(5), true);
            is(isle.end(6), false);
            is(isle.count(11), 3);
            is(isle.like(), 1);
            is(isle.item(0, 0), 1);
            is(isle.side(0, 1), 7);
            is(isle.count(3), 182);
            is(isle.fault(), HalfIsle.NONE);
            // those that read the TAPE use it up, wrong as it is
            none(() -> isle.law());
            is(isle.end(1), false);
            is(isle.count(2), HalfIsle.NONE);
            none(() -> Checks.traces(isle, true, 1));
            is(isle.end(1), false);
            none(() -> Checks.look(isle, 1));
            is(isle.end(1), false);
            none(() -> deed(isle, "none"));
            is(isle.end(1), false);
        });
        test("Terms, refused calls", "IndexOutOfBoundsException: there is no such ITEM, ROOM, SIDE.", () -> {
            HalfIsle isle = isle(ITEM);
            int[] none = {-1, 6, Integer.MIN_VALUE, Integer.MAX_VALUE};
            for (int n : none) {
                outside(() -> isle.item(n, 0));
                outside(() -> isle.room(n, 0));
                outside(() -> isle.side(n, 0));
                outside(() -> isle.does(n, 0));
                outside(() -> isle.steps(n, 0));
                outside(() -> isle.steps(0, n));
                outside(() -> isle.carry(n, 0));
                outside(() -> isle.carry(0, n));
                outside(() -> isle.mend(n));
                outside(() -> isle.sweep(n));
                outside(() -> isle.pay(n, 1));
                outside(() -> isle.ahead(n, 0, 0));
                outside(() -> isle.wearing(n));
                outside(() -> isle.meets(n, 0));
                outside(() -> isle.meets(0, n));
                outside(() -> isle.visits(n, 0));
                outside(() -> isle.stays(n));
                outside(() -> isle.led(n, true));
            }
        });
        test("Terms, refused calls", "IllegalArgumentException: a number is none, or two are one.", () -> {
            HalfIsle isle = isle(ITEM + ";" + ITEM);
            none(() -> isle.meets(0, 0));
            none(() -> isle.meets(1, 1));
            is(isle.meets(0, 1), 0);
            int[] none = {-1, 10000, Integer.MIN_VALUE, Integer.MAX_VALUE};
            for (int n : none) {
                none(() -> isle.pay(0, n));
                none(() -> isle.days(n));
                none(() -> isle.ahead(0, n, 0));
                none(() -> isle.worst(n));
                none(() -> isle.saves(n, true));
                none(() -> isle.calm(n, 0));
                none(() -> isle.boats(n, 1, 1));
                none(() -> isle.boats(1, n, 1));
                none(() -> isle.boats(1, 1, n));
                none(() -> isle.lighten(n));
                none(() -> isle.visits(0, n));
                none(() -> isle.crowd(n));
                none(() -> isle.trial(n, true));
                none(() -> isle.span(n, true));
            }
        });
    }

    private static void undone() {
        test("Promise 52 undo", "UNDONE: whether there was one.", () -> {
            HalfIsle isle = isle(ITEM);
            is(isle.undo(), false);
            isle.carry(0, 3);
            is(isle.undo(), true);
            is(isle.item(0, 0), 0);
            is(isle.undo(), false);
            is(isle.item(0, 0), 0);
        });
        test("Terms, UNDONE", "(12 are remembered; DAYS of one call are one)", () -> {
            HalfIsle isle = isle(ITEM);
            for (int act = 1; act <= 13; act++) {
                isle.carry(0, act % 6);
                is(isle.count(11), Math.min(act, 12));
            }
            for (int act = 12; act >= 1; act--) {
                is(isle.undo(), true);
                is(isle.item(0, 0), act % 6);
                is(isle.count(11), act - 1);
            }
            is(isle.undo(), false);
            is(isle.item(0, 0), 1);
            // from there on 12 may come once more, and the DAYS of one call are one
            for (int act = 1; act <= 12; act++) {
                isle.days(act);
            }
            is(isle.count(3), 78);
            is(isle.count(11), 12);
            is(isle.undo(), true);
            is(isle.count(3), 66);
            isle.days(400);
            is(isle.count(11), 12);
            is(isle.undo(), true);
            is(isle.count(3), 66);
        });
        test("Terms, UNDONE", "UNDONE: the latest ACT not undone yet", () -> {
            HalfIsle isle = isle(ITEM);
            isle.carry(0, 1);
            isle.carry(0, 2);
            is(isle.undo(), true);
            isle.carry(0, 3);
            is(isle.count(11), 2);
            is(isle.undo(), true);
            is(isle.item(0, 0), 1);
            is(isle.undo(), true);
            is(isle.item(0, 0), 0);
            is(isle.undo(), false);
            // an ACT by which nothing is otherwise is one, too
            isle.sweep(0);
            isle.mend(0);
            isle.carry(0, 0);
            is(isle.count(11), 3);
            is(isle.undo(), true);
            is(isle.count(11), 2);
        });
        test("Terms, UNDONE", "all is as ahead of it (but for the TAPE, fault(), THE IMAGE)", () -> {
            HalfIsle isle = isle(ITEM + "; soil 0 40; storm 100", "wear 1; shift 1; soil 1");
            isle.days(400);
            isle.image();
            wrongDeed(isle, "day 5;", 6);
            Checks.feed(isle, "day");
            is(isle.undo(), true);
            int[] counts = {1, 1, 3, 0, 0, 100, 40, 0, 0, 5, 0, 0};
            for (int what = 0; what < 12; what++) {
                is(isle.count(what), counts[what]);
            }
            is(isle.item(0, 0), 0);
            is(isle.item(0, 5), 0);
            is(isle.side(0, 1), 0);
            is(isle.log(0, 0), HalfIsle.NONE);
            is(isle.seed(1), 1);
            is(isle.fault(), 6);
            is(isle.end(3), true);
            is(isle.like(), 0);
            is(isle.back(), true);
            is(isle.count(3), 400);
        });
    }

    private static void forgotten() {
        test("Terms, UNDONE", "A text, going back: none are remembered.", () -> {
            HalfIsle isle = isle(ITEM);
            isle.take();
            deed(isle, "");
            is(isle.count(11), 0);
            is(isle.undo(), false);
            isle.take();
            law(isle, "");
            is(isle.count(11), 0);
            is(isle.undo(), false);
            isle.take();
            isle.image();
            is(isle.count(11), 1);
            is(isle.back(), true);
            is(isle.count(11), 0);
            is(isle.undo(), false);
            // of a wrong text nothing stays: what was remembered still is
            isle.carry(0, 2);
            none(() -> deed(isle, "none"));
            none(() -> law(isle, "none"));
            is(isle.count(11), 1);
            is(isle.undo(), true);
            is(isle.item(0, 0), 0);
            // nothing is gone back to without THE IMAGE
            HalfIsle fresh = isle(ITEM);
            fresh.take();
            is(fresh.back(), false);
            is(fresh.count(11), 1);
        });
        test("Terms, ACTS",
                "an ITEM is carried to a ROOM; MENDED: WORN is 5 less (0 at least); a ROOM is swept: SOIL is 0;"
                + " a SIDE pays: OWES is so much less; THE INVENTORY is taken; DAYS.", () -> {
            HalfIsle isle = owing();
            deed(isle, "");
            isle.carry(0, 2);
            isle.mend(0);
            isle.sweep(0);
            isle.pay(0, 1);
            isle.take();
            isle.days(1);
            is(isle.count(11), 6);
            // no acts
            isle.seed(5);
            isle.image();
            isle.trial(5, true);
            isle.feed(0, 0, 0, 0, 0);
            isle.end(0);
            isle.fault();
            isle.ahead(0, 5, 0);
            Checks.traces(isle, true, 1, 1);
            is(isle.count(11), 6);
        });
    }
}
