/** Promises 18, 23 to 25 and 34 to 38: what is ahead. */
public final class AheadTest {
    public static void main(String[] args) {
        ahead();
        first();
        round();
        worst();
        wearing();
        meets();
        visits();
        crowd();
        stays();
        withoutStorms();
        nothingChanges();
        Checks.ends();
    }

    /** ITEM 0 goes on each DAY and wears by 1, ITEM 1 stays till DAY 100 and soils. */
    private static HalfIsle two() {
        return Checks.isle("item 9 home 0 side 0; item 7 home 3 side 1; worn 1 6; storm 100",
                "shift 1 if item < 1 or day > 99; wear 1 if item < 1; soil 1 if item > 0");
    }

    private static void ahead() {
        HalfIsle isle = two();
        Checks.is("ROOM now", isle.ahead(0, 0, 0), 0);
        Checks.is("ROOM in 8", isle.ahead(0, 8, 0), 2);
        Checks.is("WORN in 8, without storms", isle.ahead(0, 8, 1), 8);
        Checks.is("WORN in 400", isle.ahead(0, 400, 1), 99);
        Checks.is("MISSING now", isle.ahead(0, 0, 2), 0);
        Checks.is("MISSING in 1", isle.ahead(0, 1, 2), 1);
        Checks.is("MISSING in 6", isle.ahead(0, 6, 2), 0);
        // on DAY 181 it goes on to ROOM 2 and THE INVENTORY is taken
        Checks.is("MISSING in 181", isle.ahead(0, 181, 2), 1);
        Checks.is("found in 182", isle.ahead(0, 182, 2), 0);
        Checks.outside("ahead(2, 0, 0)", () -> isle.ahead(2, 0, 0));
        Checks.outside("ahead(-1, 401, 3)", () -> isle.ahead(-1, 401, 3));
        Checks.none("ahead(0, 401, 3)", () -> isle.ahead(0, 401, 3));
        Checks.none("ahead(0, -1, 0)", () -> isle.ahead(0, -1, 0));
        Checks.nothing("ahead(0, 0, 3)", () -> isle.ahead(0, 0, 3));
        Checks.nothing("ahead(0, 0, -1)", () -> isle.ahead(0, 0, -1));
    }

    private static void first() {
        HalfIsle isle = two();
        Checks.is("FIRST in", isle.first(false), 1);
        Checks.is("FIRST", isle.first(true), 0);
        isle.carry(1, 5);
        Checks.is("FIRST at once", isle.first(false), 0);
        Checks.is("FIRST at once which", isle.first(true), 1);
        HalfIsle late = Checks.isle("item 9 home 0 side 0; item 7 home 3 side 1; item 7 home 3 side 1; day 1",
                "shift 1 if item > 0 and side > 0 and day > 0 and 2 > day");
        // DAY 183 is the first with SIDE 1 and 1 of the half
        Checks.is("FIRST late", late.first(false), 183);
        Checks.is("FIRST late which", late.first(true), 1);
        HalfIsle never = Checks.isle("item 9 home 0 side 0", "shift 6");
        Checks.is("FIRST never", never.first(false), HalfIsle.NONE);
        Checks.is("FIRST never which", never.first(true), HalfIsle.NONE);
        HalfIsle edge = Checks.isle("item 9 home 0 side 0; day 600", "shift 1 if worn > 98; wear 1 if worn < 99");
        // WORN 99 behind 99 DAYS, and gone behind one more
        Checks.is("FIRST by WORN", edge.first(false), 100);
        // on DAY 180 it wears, on DAY 544 it shifts
        HalfIsle last = Checks.isle("item 9 home 0 side 0; day 145",
                "wear 1 if side < 1 and day > 179 and 181 > day; shift 1 if side < 1 and day + worn > 180 and 181 > day");
        Checks.is("FIRST in 400", last.first(false), 400);
        Checks.deed(last, "day 144");
        Checks.is("FIRST beyond 400", last.first(false), HalfIsle.NONE);
    }

    private static void round() {
        Checks.is("ROUND of 6", two().round(), 6);
        Checks.is("ROUND of none", new HalfIsle().round(), 1);
        Checks.is("ROUND of 2", Checks.isle("item 9 home 0 side 0", "shift 3").round(), 2);
        HalfIsle apart = Checks.isle("item 9 home 0 side 0; item 9 home 0 side 0",
                "shift 3 if item < 1; shift 2 if item > 0");
        Checks.is("ROUND of both", apart.round(), 6);
        Checks.is("ROUND in 60", Checks.isle("item 9 home 0 side 0",
                "wear 1; shift 1 if worn < 1; shift 5 if worn > 58 and worn < 60").round(), 60);
        Checks.is("ROUND beyond 60", Checks.isle("item 9 home 0 side 0",
                "wear 1; shift 1 if worn < 1; shift 5 if worn > 59 and worn < 61").round(), HalfIsle.NONE);
        HalfIsle away = two();
        away.carry(0, 3);
        Checks.is("ROUND is from now", away.round(), 6);
    }

    private static void worst() {
        HalfIsle isle = two();
        Checks.is("WORST now", isle.worst(0), 1);
        Checks.is("WORST in 6, like ones", isle.worst(6), 0);
        Checks.is("WORST in 5", isle.worst(5), 1);
        Checks.is("WORST in 400", isle.worst(400), 0);
        Checks.is("WORST of none", new HalfIsle().worst(3), HalfIsle.NONE);
        Checks.is("WORST unworn", Checks.isle("item 1 home 1 side 1").worst(3), 0);
        Checks.none("worst(401)", () -> isle.worst(401));
        Checks.none("worst(-1)", () -> isle.worst(-1));
    }

    private static void wearing() {
        HalfIsle isle = Checks.isle("item 9 home 0 side 0; item 9 home 1 side 0; worn 1 98; day 172; storm 100",
                "wear 2 if item < 1; wear 3 if item > 0");
        Checks.is("WEARING for 10 DAYS", isle.wearing(0), 20);
        Checks.is("WEARING to 99", isle.wearing(1), 1);
        Checks.deed(isle, "day 181");
        Checks.is("WEARING for one", isle.wearing(0), 2);
        Checks.deed(isle, "day 182");
        Checks.is("WEARING for 182", isle.wearing(0), 99);
        Checks.outside("wearing(2)", () -> isle.wearing(2));
        Checks.outside("wearing(-1)", () -> isle.wearing(-1));
    }

    private static void meets() {
        HalfIsle isle = two();
        Checks.is("MEETS", isle.meets(0, 1), 3);
        Checks.is("MEETS likewise", isle.meets(1, 0), 3);
        isle.carry(0, 3);
        Checks.is("MEETS now", isle.meets(0, 1), 0);
        HalfIsle never = Checks.isle("item 9 home 0 side 0; item 9 home 1 side 0", "shift 1");
        Checks.is("MEETS never", never.meets(0, 1), HalfIsle.NONE);
        HalfIsle late = Checks.isle("item 9 home 0 side 0; item 9 home 1 side 0; day 146",
                "shift 1 if item < 1 and side < 1 and day > 180");
        Checks.is("MEETS once", late.meets(0, 1), 36);
        Checks.deed(late, "day 146; item 9 home 2 side 0");
        Checks.is("MEETS in 400", late.meets(0, 2), 400);
        Checks.deed(late, "day 145");
        Checks.is("MEETS beyond 400", late.meets(0, 2), HalfIsle.NONE);
        Checks.none("meets(0, 0)", () -> isle.meets(0, 0));
        Checks.outside("meets(2, 2)", () -> isle.meets(2, 2));
        Checks.outside("meets(0, 2)", () -> isle.meets(0, 2));
        Checks.outside("meets(-1, 0)", () -> isle.meets(-1, 0));
    }

    private static void visits() {
        HalfIsle isle = two();
        isle.carry(0, 4);
        Checks.is("VISITS in 0", isle.visits(0, 0), 16);
        Checks.is("VISITS in 2", isle.visits(0, 2), 16 + 32 + 1);
        Checks.is("VISITS in 60", isle.visits(0, 60), 63);
        Checks.is("VISITS of one that stays", isle.visits(1, 60), 8);
        Checks.none("visits(0, 61)", () -> isle.visits(0, 61));
        Checks.none("visits(0, -1)", () -> isle.visits(0, -1));
        Checks.outside("visits(2, 61)", () -> isle.visits(2, 61));
        Checks.outside("visits(-1, 0)", () -> isle.visits(-1, 0));
    }

    private static void crowd() {
        HalfIsle isle = two();
        Checks.is("CROWD now", isle.crowd(0), 1);
        Checks.is("CROWD in 3", isle.crowd(3), 2);
        Checks.is("CROWD in 400", isle.crowd(400), 1);
        Checks.is("CROWD in 0", Checks.isle("item 1 home 0 side 0").crowd(0), 1);
        Checks.is("CROWD in 5", Checks.isle("item 1 home 5 side 0; item 1 home 5 side 0; item 1 home 1 side 0").crowd(9), 2);
        Checks.is("CROWD of none", new HalfIsle().crowd(400), 0);
        Checks.none("crowd(401)", () -> isle.crowd(401));
        Checks.none("crowd(-1)", () -> isle.crowd(-1));
    }

    private static void stays() {
        HalfIsle isle = two();
        Checks.is("STAYS", isle.stays(0), 1);
        Checks.is("STAYS long", isle.stays(1), 101);
        isle.carry(1, 0);
        Checks.is("STAYS where it is now", isle.stays(1), 101);
        Checks.is("STAYS always", Checks.isle("item 9 home 0 side 0").stays(0), HalfIsle.NONE);
        HalfIsle far = Checks.isle("item 9 home 0 side 0; day 146", "shift 1 if side < 1 and day > 180");
        far.days(36);
        Checks.is("STAYS for 364", far.stays(0), 364);
        // on DAY 181 it wears, on DAY 545 it shifts
        HalfIsle edge = Checks.isle("item 9 home 0 side 0; day 146",
                "wear 1 if side < 1 and day > 180; shift 1 if side < 1 and day + worn > 181");
        Checks.is("STAYS for 400", edge.stays(0), 400);
        Checks.deed(edge, "day 145");
        Checks.is("STAYS beyond 400", edge.stays(0), HalfIsle.NONE);
        Checks.outside("stays(2)", () -> isle.stays(2));
        Checks.outside("stays(-1)", () -> isle.stays(-1));
    }

    /** By a storm each DAY some ITEM would be worn, and go. */
    private static void withoutStorms() {
        HalfIsle isle = Checks.isle("item 1 home 0 side 0; item 1 home 1 side 0; item 1 home 2 side 0; item 1 home 3 side 0;"
                + "item 1 home 4 side 0; item 1 home 5 side 0; storm 100", "shift 1 if worn > 0");
        Checks.is("FIRST", isle.first(false), HalfIsle.NONE);
        Checks.is("ROUND", isle.round(), 1);
        Checks.is("CROWD", isle.crowd(400), 1);
        Checks.is("WORST", isle.worst(400), 0);
        for (int item = 0; item < 6; item++) {
            Checks.is("STAYS", isle.stays(item), HalfIsle.NONE);
            Checks.is("MEETS", isle.meets(item, (item + 1) % 6), HalfIsle.NONE);
            Checks.is("VISITS", isle.visits(item, 60), 1 << item);
            Checks.is("WEARING", isle.wearing(item), 0);
            Checks.is("ahead", isle.ahead(item, 400, 1), 0);
        }
        Checks.law(isle, "shift 1; shift 1 if worn > 0");
        Checks.is("ROUND of 6", isle.round(), 6);
        Checks.law(isle, "shift 1 if worn > 0");
        isle.days(6);
        Checks.is("storms come", isle.first(false) == HalfIsle.NONE, false);
    }

    private static void nothingChanges() {
        HalfIsle isle = two();
        isle.first(true);
        isle.round();
        isle.worst(400);
        isle.wearing(0);
        isle.meets(0, 1);
        isle.visits(0, 60);
        isle.crowd(400);
        isle.stays(1);
        isle.ahead(0, 400, 0);
        Checks.is("DAY", isle.count(3), 0);
        Checks.is("WORN", isle.count(8), 6);
        Checks.is("SOIL", isle.count(6), 0);
        Checks.is("rows", isle.count(10), 0);
        Checks.is("acts", isle.count(11), 0);
        Checks.is("SEED", isle.seed(1), 1);
    }
}
