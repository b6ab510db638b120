/** Boundary cases of what is best put back, where to look, what is likely and due: promises 26 to 33 and 39. */
final class BoundsOfPlans extends Bounds {
    private static final String ITEM = "item 5 home 0 side 0";

    static void test() {
        saves();
        search();
        calm();
        boats();
        rests();
        due();
        lighten();
        parted();
    }

    private static void saves() {
        test("Terms, SAVES, 26 saves", "of all ITEMS with WORK above 0", () -> {
            HalfIsle isle = isle("item 99 home 0 side 0; item 1 home 0 side 0; worn 1 1");
            is(isle.saves(0, false), 0);
            is(isle.saves(0, true), 0);
            is(isle.saves(1, false), 2);
            is(isle.saves(1, true), 1);
            is(isle.saves(99, false), 2);
            is(isle.saves(99, true), 1);
            is(new HalfIsle().saves(99, false), 0);
            is(new HalfIsle().saves(99, true), 0);
        });
        test("Terms, SAVES", "the set of which WORK together is that at most and VALUE together is the most", () -> {
            // WORK 3, 2 and 2 of VALUE 6, 5 and 4
            HalfIsle isle = isle("item 6 home 0 side 0; item 5 home 0 side 0; item 4 home 0 side 0");
            isle.carry(0, 3);
            isle.carry(1, 2);
            isle.carry(2, 4);
            int[] sets = {0, 0, 2, 1, 6, 3, 3, 7, 7};
            int[] much = {0, 0, 5, 6, 9, 11, 11, 15, 15};
            for (int work = 0; work < sets.length; work++) {
                is(isle.saves(work, false), sets[work]);
                is(isle.saves(work, true), much[work]);
            }
            HalfIsle all = isle(lines("item 99 home 0 side 0", 12));
            for (int i = 0; i < 12; i++) {
                all.carry(i, 3);
            }
            is(all.saves(35, true), 11 * 99);
            is(all.saves(36, true), 12 * 99);
            is(all.saves(36, false), 4095);
        });
        test("Terms, SAVES", "of several the least as bits; how much.", () -> {
            HalfIsle isle = isle(lines(ITEM, 3) + ";item 10 home 0 side 0");
            for (int i = 0; i < 4; i++) {
                isle.carry(i, i < 3 ? 1 : 2);
            }
            is(isle.saves(1, false), 1);
            is(isle.saves(2, false), 3);
            is(isle.saves(2, true), 10);
            is(isle.saves(3, false), 7);
        });
        test("Terms, SAVES", "SAVES with so much WORK (0 to 99)", () -> {
            // WORK is 20 of each WORN 99 and 16 of the one that is WORN 79, then 3 more: 99 of all together
            StringBuilder deed = new StringBuilder(lines("item 9 home 0 side 0", 5));
            for (int i = 0; i < 5; i++) {
                deed.append(";worn ").append(i).append(" 99");
            }
            HalfIsle isle = isle(deed.toString());
            for (int i = 0; i < 4; i++) {
                isle.mend(4);
            }
            is(isle.item(4, 9), 16);
            is(isle.saves(95, true), 36);
            is(isle.saves(96, true), 45);
            isle.carry(0, 3);
            is(isle.saves(98, true), 36);
            is(isle.saves(99, true), 45);
        });
        test("Promise 26 saves", "IllegalArgumentException: so much is none.", () -> {
            HalfIsle isle = isle(ITEM);
            none(() -> isle.saves(-1, false));
            none(() -> isle.saves(100, false));
            none(() -> isle.saves(-1, true));
            none(() -> isle.saves(100, true));
            none(() -> isle.saves(Integer.MIN_VALUE, true));
            is(isle.saves(0, true), 0);
            is(isle.saves(99, true), 0);
        });
    }

    private static void search() {
        test("Terms, SEARCH", "each as likely as there are ITEMS in it, and 1", () -> {
            // without ITEMS and SOIL each is as likely as the others and costs 1
            is(new HalfIsle().costs(), 1 + 2 + 3 + 4 + 5 + 6);
            HalfIsle isle = isle(lines(ITEM + " in 5", 12));
            is(isle.search(0), 5);
            is(isle.costs(), 13 + 2 + 3 + 4 + 5 + 6);
        });
        test("Terms, SEARCH", "to look through a ROOM costs SOIL and 1", () -> {
            HalfIsle isle = isle("soil 0 99");
            is(isle.search(5), 0);
            is(isle.costs(), 1 + 2 + 3 + 4 + 5 + 105);
            HalfIsle all = isle("soil 0 99; soil 1 99; soil 2 99; soil 3 99; soil 4 99; soil 5 99");
            is(all.costs(), 100 * 21);
        });
        test("Terms, SEARCH", "of several the first by the first unlike ROOM, the lesser", () -> {
            HalfIsle isle = new HalfIsle();
            for (int k = 0; k < 6; k++) {
                is(isle.search(k), k);
            }
            // 3 and 1 are alike: twice as likely, twice as dear; so are all the others
            HalfIsle alike = isle(ITEM + " in 3;" + ITEM + " in 1; soil 3 1; soil 1 1");
            for (int k = 0; k < 6; k++) {
                is(alike.search(k), k);
            }
            HalfIsle unlike = isle(ITEM + " in 4; soil 0 1; soil 2 1");
            int[] order = {4, 1, 3, 5, 0, 2};
            for (int k = 0; k < 6; k++) {
                is(unlike.search(k), order[k]);
            }
        });
        test("Promise 27 search", "SEARCH: the ROOM that is k-th; NONE.", () -> {
            HalfIsle isle = isle("soil 0 1");
            is(isle.search(0), 1);
            is(isle.search(5), 0);
            is(isle.search(6), HalfIsle.NONE);
            is(isle.search(-1), HalfIsle.NONE);
            is(isle.search(Integer.MIN_VALUE), HalfIsle.NONE);
            is(isle.search(Integer.MAX_VALUE), HalfIsle.NONE);
        });
        test("Promise 28 costs", "SEARCH: how much together.", () -> {
            // 12 ITEMS by 100 on the way: 13 times 100 with 5 others ahead of it, for 1 each
            HalfIsle isle = isle(lines(ITEM, 12) + "; soil 0 99");
            is(isle.search(0), 1);
            is(isle.costs(), 1 + 2 + 3 + 4 + 5 + 13 * 105);
            HalfIsle most = isle(lines(ITEM, 12) + "; soil 0 99");
            deed(most, "soil 1 99; soil 2 99; soil 3 99; soil 4 99; soil 5 99");
            is(most.costs(), 1300 + 200 + 300 + 400 + 500 + 600);
        });
    }

    private static void calm() {
        test("Terms, CALM, 29 calm", "(10000 with K 0, or below; 0 with K above N).", () -> {
            for (int storm = 0; storm <= 100; storm += 50) {
                HalfIsle isle = isle("storm " + storm);
                for (int n = 0; n <= 6; n++) {
                    is(isle.calm(n, 0), 10000);
                    is(isle.calm(n, -1), 10000);
                    is(isle.calm(n, Integer.MIN_VALUE), 10000);
                    is(isle.calm(n, n + 1), 0);
                    is(isle.calm(n, Integer.MAX_VALUE), 0);
                }
            }
        });
        test("Terms, CALM", "each alike, in 10000, rounded down", () -> {
            is(isle("storm 1").calm(3, 3), 9702);
            is(isle("storm 99").calm(2, 2), 1);
            is(isle("storm 99").calm(3, 3), 0);
            is(isle("storm 50").calm(6, 6), 156);
            is(isle("storm 50").calm(6, 1), 9843);
            is(isle("storm 50").calm(6, 3), 6562);
            is(isle("storm 0").calm(6, 6), 10000);
            is(isle("storm 100").calm(6, 1), 0);
            is(isle("storm 1").calm(6, 1), 9999);
        });
        test("Terms, CALM", "of N DAYS (0 to 6)", () -> {
            HalfIsle isle = isle("storm 50");
            is(isle.calm(0, 0), 10000);
            is(isle.calm(1, 1), 5000);
            is(isle.calm(6, 6), 156);
            none(() -> isle.calm(7, 6));
            none(() -> isle.calm(-1, 0));
        });
        test("Promise 29 calm", "IllegalArgumentException: N is none.", () -> {
            HalfIsle isle = new HalfIsle();
            none(() -> isle.calm(-1, -1));
            none(() -> isle.calm(7, 0));
            none(() -> isle.calm(7, 8));
            none(() -> isle.calm(Integer.MIN_VALUE, 0));
            none(() -> isle.calm(Integer.MAX_VALUE, 0));
        });
    }

    private static void boats() {
        test("Terms, BOATS, 30 boats", "N (0 to 999) who leave by boats of M seats (1 to 99), K boats (1 to 9)", () -> {
            HalfIsle isle = new HalfIsle();
            is(isle.boats(0, 1, 1), 0);
            is(isle.boats(0, 99, 9), 0);
            is(isle.boats(1, 1, 1), 1);
            is(isle.boats(999, 1, 1), 999);
            is(isle.boats(891, 99, 9), 1);
            is(isle.boats(892, 99, 9), 2);
            is(isle.boats(999, 99, 9), 2);
            is(isle.boats(10, 5, 2), 1);
            is(isle.boats(11, 5, 2), 2);
            is(isle.boats(999, 99, 1), 11);
            is(isle.boats(999, 1, 9), 111);
        });
        test("Promise 30 boats", "IllegalArgumentException: N, M or K are none.", () -> {
            HalfIsle isle = new HalfIsle();
            none(() -> isle.boats(-1, 1, 1));
            none(() -> isle.boats(1000, 1, 1));
            none(() -> isle.boats(1, 0, 1));
            none(() -> isle.boats(1, 100, 1));
            none(() -> isle.boats(1, 1, 0));
            none(() -> isle.boats(1, 1, 10));
            none(() -> isle.boats(0, 0, 0));
            none(() -> isle.boats(1, -1, -1));
            none(() -> isle.boats(1, Integer.MIN_VALUE, 1));
            none(() -> isle.boats(1, 1, Integer.MIN_VALUE));
        });
    }

    /** RESTS with one ITEM of this VALUE, MISSING by so many STEPS. */
    private static int rests(int value, int steps) {
        HalfIsle isle = isle("item " + value + " home 0 side 0");
        isle.carry(0, steps);
        return isle.rests();
    }

    private static void rests() {
        test("Terms, RESTS, 31 rests", "from which neither SIDE would have less costs by its other choice alone", () -> {
            // costs that are alike are not less: with WORK 0 and nothing MISSING all four are rests
            is(new HalfIsle().rests(), 15);
            // WORK and VALUE alike: to mend alone is as good as to leave it, too
            is(rests(1, 1), 2 + 4 + 8);
            is(rests(2, 2), 2 + 4 + 8);
            is(rests(3, 3), 2 + 4 + 8);
            // one more, or one less
            is(rests(4, 3), 2 + 4);
            is(rests(2, 1), 2 + 4);
            is(rests(1, 2), 8);
            is(rests(2, 3), 8);
        });
        test("Terms, RESTS", "Mending costs a SIDE its half of WORK of all, rounded up, if both mend, else all of it", () -> {
            // a half of 1 is 1, and so more than leaving it
            is(isle("soil 0 1").rests(), 8);
            is(isle("soil 0 1; item 1 home 0 side 0").rests(), 8);
        });
        test("Terms, RESTS", "costs each VALUE of all ITEMS that are MISSING, together", () -> {
            HalfIsle isle = isle("item 1 home 0 side 0; item 1 home 0 side 1; item 99 home 0 side 0; soil 0 1");
            is(isle.rests(), 8);
            isle.carry(0, 1);
            is(isle.rests(), 8);
            isle.carry(1, 5);
            // WORK 3, and 2 are MISSING
            is(isle.rests(), 8);
            isle.sweep(0);
            is(isle.rests(), 2 + 4 + 8);
        });
        test("Promise 31 rests", "RESTS, as bits.", () -> {
            HalfIsle isle = isle("item 99 home 0 side 0");
            is(isle.rests(), 15);
            isle.carry(0, 3);
            is(isle.rests(), 6);
        });
    }

    private static void due() {
        test("Promise 32 due", "DUE.", () -> {
            is(new HalfIsle().due(), 0);
            HalfIsle isle = isle(lines("item 99 home 0 side 0", 12) + "; soil 0 99");
            is(isle.due(), 99);
            for (int i = 0; i < 12; i++) {
                isle.carry(i, 1);
            }
            is(isle.due(), 99 + 1188);
            law(isle, "wear 20");
            isle.days(5);
            is(isle.due(), 99 + 2 * 1188);
            isle.take();
            is(isle.due(), 0);
        });
        test("Terms, DUE, 32 due", "what the SIDE that is THERE would OWE more, if it left now (see (c)).", () -> {
            // as things are now, without (a) and (b) of the DAY
            HalfIsle isle = isle("item 7 home 0 side 0; day 181; storm 100", "shift 1; wear 1");
            is(isle.due(), 0);
            isle.carry(0, 5);
            is(isle.due(), 7);
            isle.sweep(0);
            is(isle.side(0, 1), 0);
        });
    }

    private static void lighten() {
        test("Terms, LIGHTEN, 33 lighten", "put back (ROOM and WORN as FOUND) so that DUE is N at most", () -> {
            // what they owe: 7 and 3 WORN, 4 WORN, 9
            HalfIsle isle = isle("item 7 home 0 side 0; item 50 home 0 side 0; item 9 home 0 side 0;"
                    + "worn 0 3; worn 1 4; soil 0 2");
            isle.carry(0, 1);
            isle.carry(2, 1);
            is(isle.due(), 25);
            is(isle.lighten(25), 0);
            is(isle.lighten(9999), 0);
            is(isle.lighten(24), 1);
            is(isle.lighten(15), 1);
            is(isle.lighten(14), 3);
            is(isle.lighten(6), 5);
            is(isle.lighten(5), 7);
            is(isle.lighten(2), 7);
            is(isle.lighten(1), HalfIsle.NONE);
        });
        test("Terms, LIGHTEN", "of several sets the least as bits; none.", () -> {
            HalfIsle isle = isle(lines("item 7 home 0 side 0", 12));
            for (int i = 0; i < 12; i++) {
                isle.carry(i, 1);
            }
            for (int back = 0; back <= 12; back++) {
                is(isle.lighten(7 * (12 - back)), (1 << back) - 1);
            }
            // the fewest go first, the least as bits only then
            HalfIsle fewest = isle("item 1 home 0 side 0; item 1 home 0 side 0; item 2 home 0 side 0");
            fewest.carry(0, 1);
            fewest.carry(1, 1);
            fewest.carry(2, 1);
            is(fewest.lighten(2), 4);
            // SOIL can't be put back
            is(isle("soil 0 1").lighten(0), HalfIsle.NONE);
            is(isle("soil 0 1").lighten(1), 0);
            is(new HalfIsle().lighten(0), 0);
        });
        test("Terms, LIGHTEN", "LIGHTEN to N (0 to 9999): the fewest ITEMS", () -> {
            HalfIsle isle = isle(lines("item 99 home 0 side 0", 12), "wear 20; soil 20");
            for (int i = 0; i < 12; i++) {
                isle.carry(i, 3);
            }
            isle.days(5);
            isle.sweep(3);
            is(isle.due(), 2 * 1188);
            is(isle.lighten(0), 4095);
            is(isle.lighten(9999), 0);
            is(isle.lighten(2 * 1188), 0);
            is(isle.lighten(2 * 1188 - 1), 1);
            none(() -> isle.lighten(-1));
            none(() -> isle.lighten(10000));
        });
        test("Promise 33 lighten", "LIGHTEN, as bits; NONE. IllegalArgumentException: N is none.", () -> {
            HalfIsle isle = new HalfIsle();
            none(() -> isle.lighten(-1));
            none(() -> isle.lighten(10000));
            none(() -> isle.lighten(Integer.MIN_VALUE));
            none(() -> isle.lighten(Integer.MAX_VALUE));
            is(isle.lighten(0), 0);
            is(isle.lighten(9999), 0);
        });
    }

    private static void parted() {
        test("Terms, PARTED, 39 parted", "one of these parts: of all such the least as bits.", () -> {
            HalfIsle isle = isle("item 3 home 0 side 0; item 3 home 0 side 0; item 3 home 0 side 0; item 3 home 0 side 1");
            is(isle.parted(false), 0);
            is(isle.parted(true), 3);
            HalfIsle odd = isle("item 9 home 0 side 0; item 5 home 0 side 0; item 3 home 0 side 1");
            is(odd.parted(false), 1);
            is(odd.parted(true), 1);
            HalfIsle other = isle("item 5 home 0 side 0; item 3 home 0 side 0; item 9 home 0 side 1");
            is(other.parted(false), 1);
            is(other.parted(true), 3);
            HalfIsle all = isle(lines("item 99 home 0 side 0", 11) + ";item 1 home 0 side 0");
            is(all.parted(false), 98);
            is(all.parted(true), 63);
        });
        test("Promise 39 parted", "PARTED: by how much (part false), or the part, as bits.", () -> {
            HalfIsle isle = new HalfIsle();
            is(isle.parted(false), 0);
            is(isle.parted(true), 0);
            deed(isle, "item 99 home 0 side 0");
            is(isle.parted(false), 99);
            is(isle.parted(true), 0);
            deed(isle, "item 1 home 0 side 0");
            is(isle.parted(false), 98);
            is(isle.parted(true), 1);
        });
    }
}
