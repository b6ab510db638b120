/** Promises 26 to 33 and 39: what is best put back, where to look, odds, boats, rests, due, parts. */
public final class PlansTest {
    public static void main(String[] args) {
        saves();
        search();
        calm();
        boats();
        rests();
        due();
        lighten();
        parted();
        Checks.ends();
    }

    private static void saves() {
        // WORK 2, 0, 3, 1
        HalfIsle isle = Checks.isle("item 20 home 0 side 0; item 99 home 1 side 0; item 30 home 2 side 0;"
                + "item 10 home 3 side 1; worn 0 6; worn 3 5");
        isle.carry(2, 5);
        Checks.is("SAVES by 0", isle.saves(0, false), 0);
        Checks.is("SAVES how much by 0", isle.saves(0, true), 0);
        Checks.is("SAVES by 1", isle.saves(1, false), 8);
        Checks.is("SAVES by 2", isle.saves(2, false), 1);
        // 0 and 3 are worth as much as 2 alone: 9 as bits is more than 4
        Checks.is("SAVES by 3, like ones", isle.saves(3, false), 4);
        Checks.is("SAVES how much by 3", isle.saves(3, true), 30);
        Checks.is("SAVES by 4", isle.saves(4, false), 12);
        Checks.is("SAVES by 5", isle.saves(5, false), 5);
        Checks.is("SAVES how much by 5", isle.saves(5, true), 50);
        Checks.is("SAVES by 99, without what has no WORK", isle.saves(99, false), 13);
        Checks.is("SAVES how much by 99", isle.saves(99, true), 60);
        Checks.none("saves(100, true)", () -> isle.saves(100, true));
        Checks.none("saves(-1, false)", () -> isle.saves(-1, false));
        Checks.is("SAVES of none", new HalfIsle().saves(99, false), 0);
    }

    private static void search() {
        HalfIsle isle = Checks.isle("item 1 home 3 side 0; item 1 home 3 side 0; item 1 home 5 side 0;"
                + "soil 3 8; soil 1 5; soil 0 1; soil 5 1");
        // costs by likelihoods: 2/1, 6/1, 1/1, 9/3, 1/1, 2/2
        int[] order = {2, 4, 5, 0, 3, 1};
        for (int k = 0; k < 6; k++) {
            Checks.is("search(" + k + ")", isle.search(k), order[k]);
        }
        // paid by then: 1, 2, 4, 6, 15, 21
        Checks.is("costs", isle.costs(), 1 + 2 + 2 * 4 + 6 + 3 * 15 + 21);
        Checks.is("search(6)", isle.search(6), HalfIsle.NONE);
        Checks.is("search(-1)", isle.search(-1), HalfIsle.NONE);
        HalfIsle plain = new HalfIsle();
        for (int k = 0; k < 6; k++) {
            Checks.is("search(" + k + ") of a new one", plain.search(k), k);
        }
        Checks.is("costs of a new one", plain.costs(), 21);
    }

    private static void calm() {
        HalfIsle isle = Checks.isle("storm 30");
        Checks.is("calm(1, 1)", isle.calm(1, 1), 7000);
        Checks.is("calm(2, 2)", isle.calm(2, 2), 4900);
        Checks.is("calm(2, 1)", isle.calm(2, 1), 9100);
        Checks.is("calm(3, 2)", isle.calm(3, 2), 3430 + 3 * 1470);
        // 0.7 six times is 0.117649; 1 less 0.3 six times is 0.999271
        Checks.is("calm(6, 6), rounded down", isle.calm(6, 6), 1176);
        Checks.is("calm(6, 1), rounded down", isle.calm(6, 1), 9992);
        Checks.is("calm(6, 0)", isle.calm(6, 0), 10000);
        Checks.is("calm(6, -3)", isle.calm(6, Integer.MIN_VALUE), 10000);
        Checks.is("calm(6, 7)", isle.calm(6, 7), 0);
        Checks.is("calm(6, most)", isle.calm(6, Integer.MAX_VALUE), 0);
        Checks.is("calm(0, 0)", isle.calm(0, 0), 10000);
        Checks.is("calm(0, 1)", isle.calm(0, 1), 0);
        Checks.none("calm(7, 0)", () -> isle.calm(7, 0));
        Checks.none("calm(-1, 0)", () -> isle.calm(-1, 0));
        HalfIsle wild = Checks.isle("storm 100");
        Checks.is("wild", wild.calm(6, 1), 0);
        Checks.is("wild, none asked", wild.calm(6, 0), 10000);
        Checks.is("still", new HalfIsle().calm(6, 6), 10000);
    }

    private static void boats() {
        HalfIsle isle = new HalfIsle();
        Checks.is("none leave", isle.boats(0, 5, 2), 0);
        Checks.is("one DAY", isle.boats(10, 5, 2), 1);
        Checks.is("one too many", isle.boats(11, 5, 2), 2);
        Checks.is("many", isle.boats(999, 1, 1), 999);
        Checks.is("large", isle.boats(999, 99, 9), 2);
        Checks.none("boats(1000, 1, 1)", () -> isle.boats(1000, 1, 1));
        Checks.none("boats(-1, 1, 1)", () -> isle.boats(-1, 1, 1));
        Checks.none("boats(1, 0, 1)", () -> isle.boats(1, 0, 1));
        Checks.none("boats(1, 100, 1)", () -> isle.boats(1, 100, 1));
        Checks.none("boats(1, 1, 0)", () -> isle.boats(1, 1, 0));
        Checks.none("boats(1, 1, 10)", () -> isle.boats(1, 1, 10));
    }

    private static void rests() {
        Checks.is("RESTS without WORK", new HalfIsle().rests(), 15);
        // WORK 5 and nothing MISSING: who leaves it always has less, and both have none
        Checks.is("RESTS with nothing MISSING", Checks.isle("soil 0 50").rests(), 8);
        HalfIsle isle = Checks.isle("item 5 home 0 side 0; soil 0 40");
        isle.carry(0, 1);
        // WORK 5, VALUE 5: both leaving it costs as much as mending alone
        Checks.is("RESTS with as much", isle.rests(), 2 + 4 + 8);
        HalfIsle dear = Checks.isle("item 6 home 0 side 0; soil 0 40");
        dear.carry(0, 1);
        Checks.is("RESTS with more", dear.rests(), 2 + 4);
        HalfIsle cheap = Checks.isle("item 4 home 0 side 0; soil 0 40");
        cheap.carry(0, 1);
        Checks.is("RESTS with less", cheap.rests(), 8);
        HalfIsle later = Checks.isle("item 99 home 0 side 0; item 6 home 0 side 0; soil 0 40");
        later.carry(1, 1);
        Checks.is("RESTS by the later one", later.rests(), 2 + 4);
    }

    private static void due() {
        HalfIsle isle = Checks.isle("item 30 home 0 side 0; item 20 home 0 side 1; worn 1 6; soil 3 5");
        Checks.is("DUE", isle.due(), 6 + 5);
        isle.carry(0, 2);
        Checks.is("DUE with MISSING", isle.due(), 30 + 6 + 5);
        isle.take();
        Checks.is("DUE taken", isle.due(), 0);
        isle.sweep(3);
        isle.mend(1);
        Checks.is("less SOIL and WORN than found are not owed back", isle.due(), 0);
        isle.carry(1, 5);
        Checks.is("DUE at last", isle.due(), 20);
        Checks.is("nothing is owed yet", isle.side(0, 1), 0);
        Checks.deed(isle, "day 181");
        isle.days(1);
        Checks.is("owed then", isle.side(0, 1), 20);
    }

    private static void lighten() {
        // by ITEMS: 30, 20 + 6, 9, 0, and SOIL 5: 70 together
        HalfIsle isle = Checks.isle("item 30 home 0 side 0; item 20 home 1 side 1; item 50 home 2 side 0;"
                + "item 9 home 3 side 0; worn 1 6; worn 2 9; soil 3 5");
        isle.carry(0, 3);
        isle.carry(1, 3);
        Checks.is("DUE", isle.due(), 70);
        Checks.is("LIGHTEN to all", isle.lighten(70), 0);
        Checks.is("LIGHTEN to 69", isle.lighten(69), 1);
        Checks.is("LIGHTEN to 61", isle.lighten(61), 1);
        Checks.is("LIGHTEN to 40", isle.lighten(40), 1);
        Checks.is("LIGHTEN to 39", isle.lighten(39), 3);
        Checks.is("LIGHTEN to 14", isle.lighten(14), 3);
        Checks.is("LIGHTEN to 13", isle.lighten(13), 7);
        Checks.is("LIGHTEN to 5", isle.lighten(5), 7);
        Checks.is("LIGHTEN to 4", isle.lighten(4), HalfIsle.NONE);
        Checks.is("LIGHTEN to 0", isle.lighten(0), HalfIsle.NONE);
        isle.sweep(3);
        Checks.is("LIGHTEN to 0, swept", isle.lighten(0), 7);
        isle.undo();
        Checks.is("LIGHTEN to 9999", isle.lighten(9999), 0);
        Checks.none("lighten(-1)", () -> isle.lighten(-1));
        Checks.none("lighten(10000)", () -> isle.lighten(10000));
        Checks.is("nothing is put back", isle.due(), 70);
        HalfIsle better = Checks.isle("item 10 home 0 side 0; item 40 home 0 side 0");
        better.carry(0, 1);
        better.carry(1, 1);
        Checks.is("the one that is enough", better.lighten(20), 2);
    }

    /** VALUE 99, 1, 2, .. 10, 44: above the 6th one, too. */
    private static void many(HalfIsle isle) {
        for (int item = 5; item < 12; item++) {
            isle.carry(item, 1);
        }
        Checks.is("SAVES by 1 above the 6th", isle.saves(1, false), 1 << 11);
        Checks.is("SAVES by 2 above the 6th", isle.saves(2, false), (1 << 11) + (1 << 10));
        Checks.is("SAVES all", isle.saves(99, true), 5 + 6 + 7 + 8 + 9 + 10 + 44);
        Checks.is("LIGHTEN by the last", isle.lighten(45), 1 << 11);
        Checks.is("LIGHTEN by two", isle.lighten(40), (1 << 11) + (1 << 5));
        Checks.is("LIGHTEN by half", isle.lighten(19), (1 << 11) + (1 << 10) + (1 << 9) + (1 << 7));
        HalfIsle all = Checks.isle("item 1 home 0 side 0;item 1 home 0 side 0;item 1 home 0 side 0;item 1 home 0 side 0;"
                + "item 1 home 0 side 0;item 1 home 0 side 0;item 1 home 0 side 0;item 1 home 0 side 0;"
                + "item 1 home 0 side 0;item 1 home 0 side 0;item 1 home 0 side 0;item 1 home 0 side 0", "shift 1");
        all.days(1);
        Checks.is("LIGHTEN by none", all.lighten(12), 0);
        Checks.is("LIGHTEN by eleven", all.lighten(1), 2047);
        Checks.is("LIGHTEN by all", all.lighten(0), 4095);
        Checks.is("LIGHTEN to none", isle.lighten(0), (1 << 12) - (1 << 5));
    }

    private static void parted() {
        HalfIsle isle = Checks.isle("item 30 home 0 side 0; item 20 home 1 side 1; item 50 home 2 side 0");
        Checks.is("PARTED by", isle.parted(false), 0);
        Checks.is("PARTED", isle.parted(true), 3);
        Checks.deed(isle, "item 7 home 0 side 0");
        Checks.is("PARTED by 7", isle.parted(false), 7);
        Checks.is("PARTED with four", isle.parted(true), 3);
        HalfIsle one = Checks.isle("item 30 home 0 side 0");
        Checks.is("PARTED one by", one.parted(false), 30);
        Checks.is("PARTED one", one.parted(true), 0);
        Checks.is("PARTED none by", new HalfIsle().parted(false), 0);
        Checks.is("PARTED none", new HalfIsle().parted(true), 0);
        HalfIsle most = Checks.isle("item 99 home 0 side 0; item 1 home 0 side 0; item 2 home 0 side 0;"
                + "item 3 home 0 side 0;item 4 home 0 side 0;item 5 home 0 side 0;item 6 home 0 side 0;"
                + "item 7 home 0 side 0;item 8 home 0 side 0; item 9 home 0 side 0; item 10 home 0 side 0");
        Checks.deed(most, "item 44 home 0 side 0");
        many(most);
        // 99 alone is the half of 198
        Checks.is("PARTED twelve by", most.parted(false), 0);
        Checks.is("PARTED twelve", most.parted(true), 1);
    }
}
