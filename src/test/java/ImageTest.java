/** Promises 46 to 50, 53 and 54: likeness, trials, spans, THE LOG and THE IMAGE. */
public final class ImageTest {
    public static void main(String[] args) {
        like();
        trial();
        span();
        log();
        longLog();
        most();
        back();
        Checks.ends();
    }

    private static void like() {
        HalfIsle isle = Checks.isle("item 1 home 0 side 0; item 1 home 1 side 0; item 1 home 2 side 0; worn 1 3");
        Checks.is("LIKE without", isle.like(), HalfIsle.NONE);
        isle.image();
        Checks.is("LIKE at once", isle.like(), 3);
        isle.carry(0, 5);
        isle.mend(1);
        Checks.is("LIKE then", isle.like(), 1);
        isle.carry(0, 0);
        Checks.is("LIKE back again", isle.like(), 2);
        Checks.deed(isle, "item 1 home 0 side 0");
        Checks.is("LIKE of what both have", isle.like(), 2);
        isle.image();
        isle.undo();
        Checks.is("LIKE the later one", isle.like(), 4);
        HalfIsle empty = new HalfIsle();
        empty.image();
        Checks.is("LIKE of none", empty.like(), 0);
    }

    private static void trial() {
        // SEED 1 draws 16838, 5758: a storm in ROOM 4; SEED then draws 10113 (13): none below 13
        HalfIsle isle = Checks.isle("item 10 home 4 side 0; item 20 home 3 side 1; storm 39; day 181", "wear 1");
        Checks.is("trial of 0", isle.trial(0, false), 0);
        Checks.is("trial of 1", isle.trial(1, false), 2 + 2);
        Checks.is("trial owed", isle.trial(1, true), 4);
        isle.carry(0, 5);
        Checks.is("trial from now", isle.trial(1, false), 2);
        Checks.is("trial owed from now", isle.trial(1, true), 12);
        Checks.is("trial of 400", isle.trial(400, false), 2 * 99);
        Checks.none("trial(401, true)", () -> isle.trial(401, true));
        Checks.none("trial(-1, false)", () -> isle.trial(-1, false));
        Checks.is("nothing stays: DAY", isle.count(3), 181);
        Checks.is("nothing stays: WORN", isle.count(8), 0);
        Checks.is("nothing stays: OWES", isle.side(0, 1), 0);
        Checks.is("nothing stays: rows", isle.count(10), 0);
        Checks.is("nothing stays: SEED", isle.seed(5), 1);
        int ahead = isle.trial(30, false);
        isle.days(30);
        Checks.is("so it comes", isle.count(8), ahead);
    }

    private static void span() {
        HalfIsle isle = Checks.isle("item 10 home 4 side 0; item 20 home 3 side 1; item 5 home 4 side 0; storm 60");
        int least = Integer.MAX_VALUE;
        int most = 0;
        for (int seed = 1; seed <= 6; seed++) {
            isle.seed(seed);
            least = Math.min(least, isle.trial(20, false));
            most = Math.max(most, isle.trial(20, false));
        }
        for (int room = 0; room < 6; room++) {
            HalfIsle one = Checks.isle("item 1 home " + room + " side 0; storm 40");
            for (int days = 1; days <= 20; days++) {
                spanIsOfTrials(one, days);
            }
        }
        isle.seed(1234);
        Checks.is("span least", isle.span(20, false), least);
        Checks.is("span greatest", isle.span(20, true), most);
        Checks.is("they differ", least < most, true);
        Checks.is("span of 0", isle.span(0, true), 0);
        Checks.is("SEED stays", isle.seed(1), 1234);
        Checks.none("span(401, true)", () -> isle.span(401, true));
        Checks.none("span(-1, false)", () -> isle.span(-1, false));
    }

    private static void spanIsOfTrials(HalfIsle isle, int days) {
        int few = Integer.MAX_VALUE;
        int many = 0;
        for (int seed = 1; seed <= 6; seed++) {
            isle.seed(seed);
            few = Math.min(few, isle.trial(days, false));
            many = Math.max(many, isle.trial(days, false));
        }
        Checks.is("span least of " + days, isle.span(days, false), few);
        Checks.is("span greatest of " + days, isle.span(days, true), many);
    }

    private static void log() {
        HalfIsle isle = Checks.isle("item 30 home 0 side 0; item 40 home 1 side 1; day 181; soil 2 4");
        isle.carry(0, 1);
        isle.days(1);
        Checks.is("DAY", isle.log(0, 0), 181);
        Checks.is("SIDE", isle.log(0, 1), 0);
        Checks.is("MISSING", isle.log(0, 2), 1);
        Checks.is("OWED more", isle.log(0, 3), 34);
        Checks.is("SOILED taken", isle.count(7), 4);
        isle.carry(0, 0);
        isle.carry(1, 0);
        isle.days(182);
        int[] latest = {363, 1, 2, 70};
        int[] before = {181, 0, 1, 34};
        for (int what = 0; what < 4; what++) {
            Checks.is("log(0, " + what + ")", isle.log(0, what), latest[what]);
            Checks.is("log(1, " + what + ")", isle.log(1, what), before[what]);
            Checks.is("log(2, " + what + ")", isle.log(2, what), HalfIsle.NONE);
            Checks.is("log(-1, " + what + ")", isle.log(-1, what), HalfIsle.NONE);
        }
        Checks.nothing("log(0, 4)", () -> isle.log(0, 4));
        Checks.nothing("log(9, -1)", () -> isle.log(9, -1));
        Checks.is("led by 0", isle.led(0, false), 1);
        Checks.is("led by 1", isle.led(1, false), 1);
        Checks.is("led by 0 how much", isle.led(0, true), 34);
        Checks.is("led by 1 how much", isle.led(1, true), 70);
        isle.pay(1, 70);
        Checks.is("paid is led still", isle.led(1, true), 70);
        Checks.outside("led(2, true)", () -> isle.led(2, true));
        Checks.outside("led(-1, false)", () -> isle.led(-1, false));
    }

    /** DAY ends at 9999 with 54 EQUINOXES behind it; told days make more of them. */
    private static void longLog() {
        HalfIsle isle = Checks.isle("item 1 home 0 side 0");
        int equinoxes = 0;
        for (int n = 0; n < 25; n++) {
            equinoxes += isle.days(400);
        }
        Checks.is("EQUINOXES", equinoxes, 54);
        Checks.is("rows", isle.count(10), 54);
        Checks.is("DAY 9999 at most", isle.count(3), 9999);
        Checks.is("no EQUINOX there", isle.days(400), 0);
        Checks.is("LATEST there", isle.side(0, 4), 11);
        Checks.is("the first row", isle.log(53, 0), 181);
        for (int n = 0; n < 8; n++) {
            Checks.deed(isle, "day " + (n % 2 == 0 ? 181 : 363));
            isle.days(1);
        }
        Checks.is("60 rows", isle.count(10), 60);
        Checks.is("the latest row", isle.log(0, 0), 363);
        Checks.is("the first row then", isle.log(59, 0), 363 + 182);
        Checks.is("no row behind", isle.log(60, 0), HalfIsle.NONE);
        Checks.is("led by both", isle.led(0, false) + isle.led(1, false), 60);
    }

    private static void most() {
        StringBuilder deed = new StringBuilder();
        for (int i = 0; i < 12; i++) {
            deed.append(i == 0 ? "" : ";").append("item 99 home ").append(i % 6).append(" side 0");
        }
        HalfIsle isle = Checks.isle(deed.toString(), "shift 1 if day > 180");
        for (int n = 0; n < 9; n++) {
            isle.days(364);
        }
        Checks.is("0 OWES 9999 at most", isle.side(0, 1), 9999);
        Checks.is("1 OWES 9999 at most", isle.side(1, 1), 9999);
        Checks.is("rows tell what was due", isle.log(0, 3), 12 * 99);
        Checks.is("LED tells all", isle.led(0, true), 9 * 12 * 99);
        Checks.is("pay from there", isle.pay(0, 9999), 0);
    }

    private static void back() {
        HalfIsle isle = Checks.isle("item 30 home 0 side 0; soil 3 9; hands 1 4; places 2 3; storm 8; day 180", "wear 1");
        isle.seed(99);
        isle.carry(0, 2);
        isle.image();
        Checks.is("an image forgets nothing", isle.count(11), 1);
        isle.days(5);
        isle.sweep(3);
        Checks.deed(isle, "item 5 home 1 side 1; hands 1 9; places 2 5; storm 90; worn 0 50");
        Checks.law(isle, "shift 1; wear 5");
        isle.take();
        isle.seed(4);
        Checks.wrongDeed(isle, "x", 0);
        isle.feed(0x64617920, 0x31323300, 0, 0, 0);
        isle.end(7);
        Checks.is("back", isle.back(), true);
        Checks.is("ITEMS", isle.count(0), 1);
        Checks.is("texts", isle.count(1), 1);
        Checks.is("LINES", isle.count(2), 1);
        Checks.is("WEARS", isle.does(0, 0), 1);
        Checks.is("DAY", isle.count(3), 180);
        Checks.is("STORM", isle.count(5), 8);
        Checks.is("SOIL", isle.room(3, 0), 9);
        Checks.is("PLACES", isle.room(2, 1), 3);
        Checks.is("HANDS", isle.side(1, 0), 4);
        Checks.is("OWES", isle.side(0, 1), 0);
        Checks.is("WORN", isle.item(0, 2), 0);
        Checks.is("ROOM", isle.item(0, 0), 2);
        Checks.is("FOUND", isle.item(0, 5), 0);
        Checks.is("rows", isle.count(10), 0);
        Checks.is("SEED", isle.seed(99), 99);
        Checks.is("none are remembered", isle.undo(), false);
        Checks.is("fault stays", isle.fault(), 0);
        Checks.is("the TAPE stays", isle.deed(), 2);
        Checks.is("day of the TAPE", isle.count(3), 123);
        isle.carry(0, 5);
        Checks.is("back once more", isle.back(), true);
        Checks.is("ROOM once more", isle.item(0, 0), 2);
        HalfIsle lawless = new HalfIsle();
        lawless.take();
        Checks.is("no image", lawless.back(), false);
        Checks.is("nothing happens", lawless.count(11), 1);
        lawless.image();
        Checks.law(lawless, "wear 1");
        lawless.take();
        lawless.image();
        lawless.undo();
        Checks.is("the image stays undone", lawless.like(), 0);
        Checks.is("back to the later one", lawless.back(), true);
        Checks.is("its LAW", lawless.count(2), 1);
        HalfIsle first = new HalfIsle();
        first.image();
        Checks.law(first, "wear 1");
        first.back();
        Checks.is("back to no LAW", first.count(2), HalfIsle.NONE);
    }
}
