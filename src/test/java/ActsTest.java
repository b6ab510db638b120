/** Promises 12 to 17, 42, 51 and 52: acts, DAYS and what is undone. */
public final class ActsTest {
    public static void main(String[] args) {
        carryMendSweep();
        pay();
        take();
        days();
        order();
        bounds();
        storms();
        seeds();
        undo();
        twelve();
        Checks.ends();
    }

    private static void carryMendSweep() {
        HalfIsle isle = Checks.isle("item 30 home 2 side 0; worn 0 7; soil 4 33");
        Checks.is("carried from", isle.carry(0, 5), 2);
        Checks.is("carried to", isle.item(0, 0), 5);
        Checks.is("carried to the same", isle.carry(0, 5), 5);
        Checks.is("mended", isle.mend(0), 2);
        Checks.is("mended to 0", isle.mend(0), 0);
        Checks.is("mended at 0", isle.mend(0), 0);
        Checks.is("swept", isle.sweep(4), 33);
        Checks.is("swept again", isle.sweep(4), 0);
        Checks.is("all are acts", isle.count(11), 7);
        Checks.outside("carry(1, 0)", () -> isle.carry(1, 0));
        Checks.outside("carry(-1, 0)", () -> isle.carry(-1, 0));
        Checks.outside("carry(0, 6)", () -> isle.carry(0, 6));
        Checks.outside("carry(0, -1)", () -> isle.carry(0, -1));
        Checks.outside("mend(1)", () -> isle.mend(1));
        Checks.outside("mend(-1)", () -> isle.mend(-1));
        Checks.outside("sweep(6)", () -> isle.sweep(6));
        Checks.outside("sweep(-1)", () -> isle.sweep(-1));
        Checks.is("what throws is no act", isle.count(11), 7);
    }

    private static void pay() {
        HalfIsle isle = Checks.isle("item 30 home 2 side 0; day 181");
        isle.carry(0, 3);
        isle.days(1);
        Checks.is("owed", isle.side(0, 1), 30);
        Checks.is("settles", isle.settles(), 30);
        Checks.none("pay nothing", () -> isle.pay(0, 0));
        Checks.none("pay less than nothing", () -> isle.pay(0, -1));
        Checks.none("pay too much", () -> isle.pay(0, 31));
        Checks.none("pay without owing", () -> isle.pay(1, 1));
        Checks.outside("pay(2, 1)", () -> isle.pay(2, 1));
        Checks.outside("pay(-1, 0)", () -> isle.pay(-1, 0));
        Checks.is("pay a part", isle.pay(0, 12), 18);
        Checks.is("pay 1", isle.pay(0, 1), 17);
        Checks.is("pay the rest", isle.pay(0, 17), 0);
        Checks.deed(isle, "day 363");
        isle.carry(0, 4);
        isle.days(1);
        Checks.is("settles below 0", isle.settles(), -30);
    }

    private static void take() {
        HalfIsle isle = Checks.isle("item 30 home 2 side 0; item 1 home 0 side 1; worn 1 9; soil 3 8");
        isle.carry(0, 3);
        Checks.is("MISSING were", isle.take(), 1);
        Checks.is("then none", isle.take(), 0);
        Checks.is("SOILED", isle.count(7), 8);
        Checks.is("FOUND", isle.item(0, 5), 3);
        Checks.is("FOUND WORN", isle.item(1, 6), 9);
        Checks.is("no one owes", isle.settles(), 0);
        Checks.is("no leaving", isle.count(10), 0);
    }

    private static void days() {
        HalfIsle isle = Checks.isle("item 30 home 2 side 0");
        Checks.none("days(0)", () -> isle.days(0));
        Checks.none("days(-1)", () -> isle.days(-1));
        Checks.none("days(401)", () -> isle.days(401));
        Checks.is("days(181)", isle.days(181), 0);
        Checks.is("THERE", isle.count(4), 0);
        Checks.is("days(1)", isle.days(1), 1);
        Checks.is("THERE then", isle.count(4), 1);
        Checks.is("days(400)", isle.days(400), 2);
        Checks.is("DAY", isle.count(3), 582);
        Checks.is("THERE at last", isle.count(4), 1);
        int[] edges = {0, 0, 181, 0, 182, 1, 363, 1, 364, 0, 545, 0, 546, 1, 727, 1, 728, 0, 909, 0, 910, 1};
        for (int i = 0; i < edges.length; i += 2) {
            Checks.is("THERE on DAY " + edges[i], Checks.isle("day " + edges[i]).count(4), edges[i + 1]);
            Checks.is("EQUINOX on DAY " + edges[i], Checks.isle("day " + edges[i]).days(1), edges[i] % 182 == 181 ? 1 : 0);
        }
        HalfIsle three = Checks.isle("day 181");
        Checks.is("three in 365 days", three.days(365), 3);
    }

    /** By numbers, by all as it is by then: what an ITEM soils ahead of its shift, the next one there sees. */
    private static void order() {
        HalfIsle isle = Checks.isle("item 1 home 5 side 0; item 1 home 5 side 0; item 1 home 0 side 0",
                "soil 4 if item < 1; wear 2 if soiled > 3; shift 1 if item < 1");
        isle.days(1);
        Checks.is("0 was not soiled by then", isle.item(0, 2), 0);
        Checks.is("1 was soiled by 0", isle.item(1, 2), 2);
        Checks.is("2 was not", isle.item(2, 2), 0);
        Checks.is("0 is gone on", isle.item(0, 0), 0);
        Checks.is("SOIL stayed behind", isle.room(5, 0), 4);
        HalfIsle told = Checks.isle("item 1 home 5 side 0", "wear 1; soil 1 if worn > 0; shift 1 if soiled > 0");
        told.days(1);
        Checks.is("SOILS is told ahead of what it WEARS", told.room(5, 0), 0);
        told.days(1);
        Checks.is("SHIFTS is told ahead of what it SOILS", told.item(0, 0), 5);
        Checks.is("SOILS then", told.room(5, 0), 1);
        told.days(1);
        Checks.is("SHIFTS then", told.item(0, 0), 0);
    }

    private static void bounds() {
        HalfIsle isle = Checks.isle("item 99 home 5 side 0; item 1 home 0 side 0; worn 0 97; soil 5 98",
                "wear 3; soil 5 if room > 4; shift 20 if item < 1");
        isle.days(1);
        Checks.is("WORN 99 at most", isle.item(0, 2), 99);
        Checks.is("SOIL 99 at most", isle.room(5, 0), 99);
        Checks.is("SHIFTS round", isle.item(0, 0), 1);
        Checks.is("WORN of the other", isle.item(1, 2), 3);
    }

    private static void storms() {
        // SEED 1 draws 16838, 5758: with STORM 38 no storm, with 39 one in the ROOM 5758 modulo 6 = 4
        HalfIsle calm = Checks.isle("item 1 home 4 side 0; storm 38");
        calm.days(1);
        Checks.is("no storm", calm.item(0, 2), 0);
        Checks.is("one draw alone", calm.seed(1), 1103527590);
        HalfIsle wild = Checks.isle("item 1 home 4 side 0; item 1 home 3 side 0; item 1 home 4 side 1; worn 2 98; storm 39");
        wild.days(1);
        Checks.is("storm", wild.item(0, 2), 2);
        Checks.is("storm elsewhere", wild.item(1, 2), 0);
        Checks.is("storm, 99 at most", wild.item(2, 2), 99);
        Checks.is("two draws", wild.seed(1), 1103515245 * 1103527590 + 12345);
        HalfIsle still = new HalfIsle();
        still.days(1);
        Checks.is("a draw without STORM", still.seed(1), 1103527590);
    }

    private static void seeds() {
        HalfIsle isle = new HalfIsle();
        Checks.is("first SEED", isle.seed(-5), 1);
        Checks.is("then", isle.seed(Integer.MIN_VALUE), -5);
        Checks.is("at last", isle.seed(0), Integer.MIN_VALUE);
        Checks.is("no act", isle.count(11), 0);
    }

    private static void undo() {
        HalfIsle isle = Checks.isle("item 30 home 2 side 0; soil 1 7; worn 0 9; day 181", "wear 1; shift 1");
        Checks.is("nothing to undo", isle.undo(), false);
        isle.carry(0, 4);
        isle.seed(77);
        isle.mend(0);
        isle.sweep(1);
        isle.days(3);
        isle.pay(0, 5);
        isle.take();
        Checks.is("6 acts", isle.count(11), 6);
        Checks.is("undo take", isle.undo(), true);
        Checks.is("undo pay", isle.undo(), true);
        Checks.is("OWES", isle.side(0, 1), 30 + 5);
        Checks.is("a leaving", isle.count(10), 1);
        Checks.is("undo days", isle.undo(), true);
        Checks.is("DAY", isle.count(3), 181);
        Checks.is("OWES nothing", isle.side(0, 1), 0);
        Checks.is("no leaving", isle.log(0, 0), HalfIsle.NONE);
        Checks.is("SEED ahead of the days", isle.seed(77), 77);
        Checks.is("undo sweep", isle.undo(), true);
        Checks.is("SOIL", isle.room(1, 0), 7);
        Checks.is("undo mend", isle.undo(), true);
        Checks.is("WORN", isle.item(0, 2), 9);
        Checks.is("undo carry", isle.undo(), true);
        Checks.is("ROOM", isle.item(0, 0), 2);
        Checks.is("SEED ahead of all", isle.seed(1), 1);
        Checks.is("no more", isle.undo(), false);
        isle.carry(0, 1);
        Checks.law(isle, "");
        Checks.is("a text forgets", isle.undo(), false);
        Checks.is("carried stays", isle.item(0, 0), 1);
        isle.carry(0, 5);
        Checks.deed(isle, "");
        Checks.is("a deed forgets", isle.undo(), false);
    }

    private static void twelve() {
        HalfIsle isle = Checks.isle("item 30 home 0 side 0");
        for (int n = 1; n <= 20; n++) {
            isle.carry(0, n % 6);
        }
        Checks.is("12 are remembered", isle.count(11), 12);
        for (int n = 19; n >= 8; n--) {
            Checks.is("undo", isle.undo(), true);
            Checks.is("ROOM ahead of act " + n, isle.item(0, 0), n % 6);
        }
        Checks.is("the 13th is not", isle.undo(), false);
        isle.carry(0, 5);
        Checks.is("undo once more", isle.undo(), true);
        Checks.is("ROOM", isle.item(0, 0), 2);
    }
}
