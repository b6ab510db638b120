/** Boundary cases of THE LAW, and what it tells: promises 5 and 10. */
final class BoundsOfLaws extends Bounds {
    static void test() {
        laws();
        conditions();
        does();
    }

    private static HalfIsle one(String law) {
        return isle("item 5 home 0 side 0", law);
    }

    private static void laws() {
        test("Promise 5 law", "Uses the TAPE up: THE LAW: how many LINES.", () -> {
            HalfIsle isle = new HalfIsle();
            is(law(isle, ""), 0);
            is(isle.end(1), false);
            is(law(isle, "wear 1"), 1);
            is(isle.end(1), false);
            is(law(isle, lines("wear 1", 12)), 12);
            is(isle.count(2), 12);
            none(() -> law(isle, "none"));
            is(isle.end(1), false);
        });
        test("Promise 5 law", "IllegalArgumentException: the text is wrong.", () -> {
            HalfIsle isle = one("wear 3");
            none(() -> law(isle, "wear"));
            none(() -> law(isle, "wear 1;"));
            none(() -> law(isle, "item 5 home 0 side 0"));
            is(isle.count(2), 1);
            is(isle.does(0, 0), 3);
        });
        test("Terms, THE LAW", "THE LAW (a text, in place of the one before)", () -> {
            HalfIsle isle = one("wear 3; shift 2");
            law(isle, "soil 4");
            is(isle.count(2), 1);
            is(isle.does(0, 0), 0);
            is(isle.does(0, 1), 0);
            is(isle.does(0, 2), 4);
            law(isle, "");
            is(isle.count(2), 0);
            is(isle.does(0, 2), 0);
            // as often as one likes, and of all lengths
            for (int text = 0; text < 30; text++) {
                is(law(isle, lines("wear 1 if item < 3 and not ( day > 181 )", text % 9 + 1)), text % 9 + 1);
                is(isle.does(0, 0), text % 9 + 1);
            }
            is(law(isle, "wear 1 if item > 3; wear 2 if day > 181; wear 4 if item < 1"), 3);
            is(isle.does(0, 0), 4);
            is(law(isle, "wear 1 if item > 3; wear 2 if day < 181; wear 4 if item > 1"), 3);
            is(isle.does(0, 0), 2);
        });
        test("Terms, LINE of THE LAW", "LINE { ; LINE }, at most 12: wear N [ if C ]", () -> {
            rightLaw(lines("soil 7", 12), 12);
            wrongLaw(new HalfIsle(), lines("soil 7", 13), 12 * 7);
            wrongLaw(new HalfIsle(), lines("soil 7", 12) + "; ", 12 * 7 + 1);
            is(one(lines("soil 7", 12)).does(0, 2), 84);
            is(one(lines("wear 1 if item > 0", 12)).does(0, 0), 0);
            is(one(lines("wear 1 if item > 0", 11) + "; wear 7 if item < 1").does(0, 0), 7);
            is(one("wear 7 if item < 1;" + lines("wear 1 if item > 0", 11)).does(0, 0), 7);
        });
        test("Terms, numbers of THE LAW", "All numbers are of 1 to 3 digits (N 0 to 20).", () -> {
            rightLaw("wear 0; wear 20; shift 0; shift 20; soil 0; soil 20; soil 020", 7);
            wrongLaw(new HalfIsle(), "wear 21", 5);
            wrongLaw(new HalfIsle(), "shift 21", 6);
            wrongLaw(new HalfIsle(), "soil 21", 5);
            wrongLaw(new HalfIsle(), "soil 0020", 5);
            rightLaw("wear 1 if 0 < 999 + 000", 1);
            wrongLaw(new HalfIsle(), "wear 1 if 0 < 1000", 14);
            wrongLaw(new HalfIsle(), "wear 1 if 0000 < 1", 10);
        });
        test("Terms, depth of THE LAW", "( and not within one another at most 6 deep.", () -> {
            rightLaw("wear 1 if (((((( own ))))))", 1);
            wrongLaw(new HalfIsle(), "wear 1 if ((((((( own )))))))", 16);
            rightLaw("wear 1 if not not not not not not own", 1);
            rightLaw("wear 1 if not (not (not (own)))", 1);
            wrongLaw(new HalfIsle(), "wear 1 if not (not (not (not own)))", 25);
            // side by side is not within one another
            rightLaw("wear 1 if ((((((own)))))) and ((((((own)))))) or not not not not not not own", 1);
            rightLaw("wear 1 if ((((( (own) or not own and (home or home) )))))", 1);
            wrongLaw(new HalfIsle(), "wear 1 if ((((( not own and not (own) )))))", 32);
            // each one with an or and an and that go on behind it
            String open = "2<1 or 1<2 and (";
            is(one("wear 1 if " + open.repeat(6) + "1<2" + ")".repeat(6)).does(0, 0), 1);
            is(one("wear 1 if " + open.repeat(6) + "2<1" + ")".repeat(6)).does(0, 0), 0);
            is(one("wear 1 if " + open.repeat(6) + "2<1 or 1<2 and 1<2" + ")".repeat(6)).does(0, 0), 1);
            is(one("wear 1 if " + open.repeat(6) + "2<1 or 1<2 and 2<1" + ")".repeat(6)).does(0, 0), 0);
            is(one("wear 1 if " + open.repeat(5) + "2<1 or 1<2 and not 1<2" + ")".repeat(5)).does(0, 0), 0);
            wrongLaw(new HalfIsle(), "wear 1 if " + open.repeat(7), 10 + 6 * 16 + 15);
            // a wrong text leaves nothing open for the next one
            HalfIsle isle = new HalfIsle();
            wrongLaw(isle, "wear 1 if ((((((", 16);
            is(law(isle, "wear 1 if ((((((own))))))"), 1);
            wrongLaw(isle, "wear 1 if not not not not not not", 33);
            is(law(isle, "wear 1 if not not not not not not own; wear 1 if not (own)"), 2);
            wrongLaw(isle, "wear 1 if (own", 14);
            wrongLaw(isle, "wear 1 if own)", 13);
        });
    }

    private static void conditions() {
        test("Terms, C and ALL", "C: ALL { or ALL }; ALL: ATOM { and ATOM }; ATOM: not ATOM | ( C )", () -> {
            // each of the eight: one, two and three are WORN, SOIL and the HOME
            for (int set = 0; set < 8; set++) {
                boolean a = (set & 1) != 0;
                boolean b = (set & 2) != 0;
                boolean c = (set & 4) != 0;
                HalfIsle isle = isle("item 5 home 0 side 0 in " + (c ? 0 : 1) + "; worn 0 " + (a ? 1 : 0)
                        + "; soil " + (c ? 0 : 1) + " " + (b ? 1 : 0));
                law(isle, "wear 1 if worn > 0 or soiled > 0 and home; wear 2 if worn > 0 and soiled > 0 or home;"
                        + "wear 4 if (worn > 0 or soiled > 0) and home; wear 8 if not worn > 0 and soiled > 0");
                int wears = (a || b && c ? 1 : 0) + (a && b || c ? 2 : 0) + ((a || b) && c ? 4 : 0)
                        + (!a && b ? 8 : 0);
                is(isle.does(0, 0), wears);
                law(isle, "wear 1 if not (worn > 0 or home) and soiled > 0 or not not home; wear 2 if home or worn > 0"
                        + " or soiled > 0; wear 4 if home and worn > 0 and soiled > 0");
                is(isle.does(0, 0), (!(a || c) && b || c ? 1 : 0) + (set != 0 ? 2 : 0) + (set == 7 ? 4 : 0));
            }
            // as many ATOMS as the TAPE has bytes for
            String many = "wear1if2<1" + "or2<1".repeat(77);
            is(one(many + "or2<1").does(0, 0), 0);
            is(one(many + "or1<2").does(0, 0), 1);
            is(one(many.replace("or2<1", "or1<2") + "or2<1").does(0, 0), 1);
            is(one("wear1if1<2" + "and1<2".repeat(65)).does(0, 0), 1);
            is(one("wear1if1<2" + "and1<2".repeat(64) + "and2<1").does(0, 0), 0);
        });
        test("Terms, SUM < SUM", "SUM < SUM", () -> {
            is(one("wear 1 if 3 < 3").does(0, 0), 0);
            is(one("wear 1 if 3 < 4").does(0, 0), 1);
            is(one("wear 1 if 4 < 3").does(0, 0), 0);
            is(one("wear 1 if 0 < 0").does(0, 0), 0);
        });
        test("Terms, SUM > SUM", "SUM > SUM", () -> {
            is(one("wear 1 if 3 > 3").does(0, 0), 0);
            is(one("wear 1 if 3 > 4").does(0, 0), 0);
            is(one("wear 1 if 4 > 3").does(0, 0), 1);
            is(one("wear 1 if value > 5").does(0, 0), 0);
        });
        test("Terms, SUM", "SUM: PART { + PART }", () -> {
            // as many PARTS as the TAPE has bytes for
            String many = "1" + "+1".repeat(190);
            is(one("wear 1 if " + many + "<192").does(0, 0), 1);
            is(one("wear 1 if " + many + "<191").does(0, 0), 0);
            is(one("wear 1 if 999" + "+999".repeat(90) + " > 999").does(0, 0), 1);
        });
        test("Terms, WEARS, SHIFTS, SOILS", "the sum of N of all such LINES that hold (0 without a text).", () -> {
            HalfIsle isle = isle("item 5 home 0 side 0");
            for (int what = 0; what < 3; what++) {
                is(isle.does(0, what), 0);
            }
            is(isle.count(2), HalfIsle.NONE);
            is(isle.days(1), 0);
            is(isle.item(0, 2), 0);
            law(isle, "wear 2; wear 3 if item > 0; wear 5; soil 1 if item > 0; shift 0");
            is(isle.does(0, 0), 7);
            is(isle.does(0, 1), 0);
            is(isle.does(0, 2), 0);
        });
        test("Terms, day of THE LAW", "day: DAY modulo 182", () -> {
            int[] days = {0, 181, 182, 363, 364, 546, 999};
            int[] told = {0, 181, 0, 181, 0, 0, 89};
            for (int i = 0; i < days.length; i++) {
                HalfIsle isle = one("wear 1 if day < " + told[i] + " or day > " + told[i]);
                deed(isle, "day " + days[i]);
                is(isle.does(0, 0), 0);
            }
        });
        test("Terms, side of THE LAW", "side: the SIDE that is THERE", () -> {
            int[] days = {0, 181, 182, 363, 364};
            int[] told = {0, 0, 1, 1, 0};
            for (int i = 0; i < days.length; i++) {
                HalfIsle isle = one("wear 1 if side > 0; soil 1 if own");
                deed(isle, "day " + days[i]);
                is(isle.does(0, 0), told[i]);
                is(isle.does(0, 2), 1 - told[i]);
            }
        });
        test("Terms, own and home of THE LAW",
                "own: it is of the SIDE that is THERE; home: it is at its HOME.", () -> {
            HalfIsle isle = isle("item 5 home 0 side 0; item 5 home 0 side 1 in 5", "wear 1 if own; soil 1 if home");
            is(isle.does(0, 0), 1);
            is(isle.does(1, 0), 0);
            is(isle.does(0, 2), 1);
            is(isle.does(1, 2), 0);
            deed(isle, "day 181");
            is(isle.does(0, 0), 1);
            is(isle.does(1, 0), 0);
            deed(isle, "day 182");
            is(isle.does(0, 0), 0);
            is(isle.does(1, 0), 1);
            isle.carry(1, 0);
            is(isle.does(1, 2), 1);
        });
        test("Terms, soiled of THE LAW", "soiled: SOIL of its ROOM", () -> {
            HalfIsle isle = isle("item 5 home 0 side 0 in 5; soil 0 7; soil 5 99",
                    "wear 1 if soiled > 98; soil 1 if soiled < 99");
            is(isle.does(0, 0), 1);
            is(isle.does(0, 2), 0);
            isle.carry(0, 4);
            is(isle.does(0, 0), 0);
            is(isle.does(0, 2), 1);
        });
    }

    private static void does() {
        test("Promise 10 does", "NoSuchElementException: another what.", () -> {
            HalfIsle isle = one("wear 1; shift 2; soil 3");
            is(isle.does(0, 0), 1);
            is(isle.does(0, 1), 2);
            is(isle.does(0, 2), 3);
            nothing(() -> isle.does(0, 3));
            nothing(() -> isle.does(0, -1));
            nothing(() -> isle.does(0, Integer.MIN_VALUE));
            nothing(() -> isle.does(0, Integer.MAX_VALUE));
            outside(() -> isle.does(1, 3));
            outside(() -> isle.does(-1, 0));
        });
    }
}
