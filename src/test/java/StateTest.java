/** Promises 7 to 11, 19 to 22, 40 to 43 and 55: what is. */
public final class StateTest {
    public static void main(String[] args) {
        items();
        rooms();
        sides();
        needs();
        does();
        steps();
        sets();
        roomSets();
        richest();
        counts();
        Checks.ends();
    }

    private static HalfIsle three() {
        HalfIsle isle = Checks.isle("item 30 home 0 side 0; item 20 home 5 side 1 in 3; item 50 home 5 side 0;"
                + "worn 0 12; worn 2 4; soil 2 25; soil 5 1");
        isle.carry(2, 1);
        return isle;
    }

    private static void items() {
        HalfIsle isle = three();
        int[] first = {0, 0, 12, 30, 0, 0, 0, 0, 12, 3};
        int[] second = {3, 5, 0, 20, 1, 3, 0, 0, 0, 0};
        int[] third = {1, 5, 4, 50, 0, 5, 0, 1, 4, 2 + 1};
        for (int what = 0; what <= 9; what++) {
            Checks.is("item(0, " + what + ")", isle.item(0, what), first[what]);
            Checks.is("item(1, " + what + ")", isle.item(1, what), second[what]);
            Checks.is("item(2, " + what + ")", isle.item(2, what), third[what]);
        }
        isle.take();
        Checks.is("FOUND ROOM taken", isle.item(2, 5), 1);
        Checks.is("FOUND WORN taken", isle.item(2, 6), 4);
        isle.mend(0);
        Checks.is("less than FOUND is not WORSE", isle.item(0, 8), 0);
        Checks.outside("item(3, 0)", () -> isle.item(3, 0));
        Checks.outside("item(-1, 99)", () -> isle.item(-1, 99));
        Checks.nothing("item(0, 10)", () -> isle.item(0, 10));
        Checks.nothing("item(0, -1)", () -> isle.item(0, -1));
    }

    private static void rooms() {
        HalfIsle isle = three();
        Checks.is("SOIL", isle.room(2, 0), 25);
        Checks.is("PLACES", isle.room(2, 1), 12);
        Checks.is("ITEMS in 1", isle.room(1, 2), 4);
        Checks.is("ITEMS in 5", isle.room(5, 2), 0);
        Checks.is("HOME of 5", isle.room(5, 3), 6);
        Checks.is("HOME of 1", isle.room(1, 3), 0);
        Checks.outside("room(6, 0)", () -> isle.room(6, 0));
        Checks.outside("room(-1, 9)", () -> isle.room(-1, 9));
        Checks.nothing("room(0, 4)", () -> isle.room(0, 4));
        Checks.nothing("room(0, -1)", () -> isle.room(0, -1));
    }

    private static void sides() {
        HalfIsle isle = three();
        Checks.is("HANDS", isle.side(1, 0), 1);
        Checks.is("OWES", isle.side(1, 1), 0);
        Checks.is("ITEMS of 0", isle.side(0, 2), 5);
        Checks.is("ITEMS of 1", isle.side(1, 2), 2);
        Checks.outside("side(2, 0)", () -> isle.side(2, 0));
        Checks.outside("side(-1, 9)", () -> isle.side(-1, 9));
        Checks.nothing("side(0, 5)", () -> isle.side(0, 5));
        Checks.nothing("side(0, -1)", () -> isle.side(0, -1));
    }

    private static void needs() {
        HalfIsle isle = three();
        // ITEMS 3 + 0 + 3, ROOMS 3 + 1
        Checks.is("WORK of all", isle.work(), 10);
        Checks.is("NEEDS by 1", isle.side(0, 3), 10);
        Checks.is("LATEST by 1", isle.side(0, 4), 172);
        Checks.deed(isle, "hands 0 3; hands 1 0");
        Checks.is("NEEDS by 3", isle.side(0, 3), 4);
        Checks.is("LATEST by 3", isle.side(0, 4), 178);
        Checks.is("NEEDS without HANDS", isle.side(1, 3), HalfIsle.NONE);
        Checks.is("LATEST without HANDS", isle.side(1, 4), HalfIsle.NONE);
        Checks.deed(isle, "day 178");
        Checks.is("LATEST with 4 left", isle.side(0, 4), 0);
        Checks.deed(isle, "day 179");
        Checks.is("LATEST with 3 left", isle.side(0, 4), HalfIsle.NONE);
        Checks.deed(isle, "day 182");
        Checks.is("LATEST from the day behind an EQUINOX", isle.side(0, 4), 178);
        HalfIsle idle = Checks.isle("hands 0 0; day 181");
        Checks.is("NEEDS without WORK", idle.side(0, 3), 0);
        Checks.is("LATEST without WORK", idle.side(0, 4), 1);
        Checks.is("WORK of none", idle.work(), 0);
        int[] soils = {0, 0, 1, 1, 10, 1, 11, 2, 90, 9, 91, 10, 99, 10};
        for (int i = 0; i < soils.length; i += 2) {
            Checks.is("WORK of SOIL " + soils[i], Checks.isle("soil 5 " + soils[i]).work(), soils[i + 1]);
        }
        int[] worns = {0, 0, 1, 1, 5, 1, 6, 2, 95, 19, 96, 20, 99, 20};
        for (int i = 0; i < worns.length; i += 2) {
            HalfIsle worn = Checks.isle("item 9 home 0 side 0; worn 0 " + worns[i]);
            Checks.is("WORK of WORN " + worns[i], worn.item(0, 9), worns[i + 1]);
            Checks.is("WORK of all of WORN " + worns[i], worn.work(), worns[i + 1]);
        }
    }

    private static void does() {
        HalfIsle isle = Checks.isle("item 30 home 0 side 0; item 20 home 5 side 1",
                "wear 2 if own; wear 1; shift 3 if item > 0; soil 4 if not own; soil 5 if home");
        Checks.is("WEARS of 0", isle.does(0, 0), 3);
        Checks.is("SHIFTS of 0", isle.does(0, 1), 0);
        Checks.is("SOILS of 0", isle.does(0, 2), 5);
        Checks.is("WEARS of 1", isle.does(1, 0), 1);
        Checks.is("SHIFTS of 1", isle.does(1, 1), 3);
        Checks.is("SOILS of 1", isle.does(1, 2), 9);
        Checks.is("without THE LAW", Checks.isle("item 1 home 1 side 1").does(0, 0), 0);
        Checks.outside("does(2, 0)", () -> isle.does(2, 0));
        Checks.outside("does(-1, 7)", () -> isle.does(-1, 7));
        Checks.nothing("does(0, 3)", () -> isle.does(0, 3));
        Checks.nothing("does(0, -1)", () -> isle.does(0, -1));
    }

    private static void steps() {
        HalfIsle isle = new HalfIsle();
        int[] fromOne = {1, 0, 1, 2, 3, 2};
        for (int room = 0; room < 6; room++) {
            Checks.is("steps(1, " + room + ")", isle.steps(1, room), fromOne[room]);
            Checks.is("steps(" + room + ", 1)", isle.steps(room, 1), fromOne[room]);
        }
        Checks.is("5 and 0 are beside", isle.steps(5, 0), 1);
        Checks.outside("steps(6, 0)", () -> isle.steps(6, 0));
        Checks.outside("steps(0, 6)", () -> isle.steps(0, 6));
        Checks.outside("steps(-1, 0)", () -> isle.steps(-1, 0));
        Checks.outside("steps(0, -1)", () -> isle.steps(0, -1));
    }

    private static void sets() {
        HalfIsle isle = three();
        Checks.is("MISSING", isle.missing(), 4);
        Checks.is("WORSE", isle.worse(), 5);
        Checks.is("MISLAID", isle.mislaid(), 6);
        isle.take();
        Checks.is("MISSING then", isle.missing(), 0);
        Checks.is("WORSE then", isle.worse(), 0);
        Checks.is("MISLAID still", isle.mislaid(), 6);
        isle.carry(0, 5);
        isle.carry(2, 5);
        Checks.is("MISSING at last", isle.missing(), 5);
        Checks.is("MISLAID at last", isle.mislaid(), 3);
        Checks.is("WORSE by 1", Checks.isle("item 1 home 1 side 0; item 1 home 1 side 0; worn 1 1").worse(), 2);
    }

    private static void roomSets() {
        HalfIsle isle = Checks.isle("item 1 home 2 side 0; item 1 home 2 side 0 in 3; places 2 2; places 3 1; places 4 0");
        Checks.is("CLASH without", isle.clash(), 0);
        Checks.is("FULL", isle.full(), 8 + 16);
        Checks.deed(isle, "places 2 1");
        Checks.is("CLASH", isle.clash(), 4);
        Checks.is("FULL with 2", isle.full(), 4 + 8 + 16);
        isle.carry(0, 3);
        Checks.is("CLASH is of HOME", isle.clash(), 4);
        Checks.is("FULL by more", isle.full(), 8 + 16);
        HalfIsle ends = Checks.isle("item 1 home 0 side 0; item 1 home 5 side 0; places 0 0; places 5 0");
        Checks.is("CLASH at the ends", ends.clash(), 1 + 32);
        Checks.is("FULL at the ends", ends.full(), 1 + 32);
    }

    private static void richest() {
        HalfIsle isle = Checks.isle("item 10 home 4 side 0; item 20 home 2 side 0; item 10 home 4 side 1");
        Checks.is("RICHEST of like ones", isle.richest(), 2);
        isle.carry(0, 2);
        Checks.is("RICHEST", isle.richest(), 2);
        isle.carry(0, 4);
        isle.carry(1, 4);
        Checks.is("RICHEST carried", isle.richest(), 4);
        isle.carry(0, 0);
        isle.carry(1, 0);
        Checks.is("RICHEST 0", isle.richest(), 0);
        Checks.is("RICHEST by one", Checks.isle("item 1 home 3 side 0").richest(), 3);
        Checks.is("RICHEST by the first", Checks.isle("item 9 home 3 side 0; item 8 home 2 side 0").richest(), 3);
        Checks.is("RICHEST of none", new HalfIsle().richest(), 0);
    }

    private static void counts() {
        HalfIsle isle = three();
        Checks.law(isle, "wear 1; soil 1");
        isle.take();
        Checks.deed(isle, "storm 7; day 181; soil 0 9");
        isle.days(1);
        isle.sweep(0);
        int[] want = {3, 2, 2, 182, 1, 7, 0, 0, 0, 100, 1, 2};
        want[6] = isle.room(0, 0) + isle.room(1, 0) + isle.room(2, 0) + isle.room(3, 0) + isle.room(4, 0)
                + isle.room(5, 0);
        want[7] = want[6] + 10;
        want[8] = isle.item(0, 2) + isle.item(1, 2) + isle.item(2, 2);
        for (int what = 0; what < 12; what++) {
            Checks.is("count(" + what + ")", isle.count(what), want[what]);
        }
        Checks.is("SOIL of all", isle.count(6), 25 + 1 + 2);
        Checks.is("count(12)", isle.count(12), HalfIsle.NONE);
        Checks.is("count(-1)", isle.count(-1), HalfIsle.NONE);
    }
}
