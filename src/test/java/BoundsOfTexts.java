/** Boundary cases of the TAPE, of THE DEED and of what all texts share: promises 1 to 4 and 6. */
final class BoundsOfTexts extends Bounds {
    private static final String ITEM = "item 5 home 0 side 0";

    static void test() {
        objects();
        tape();
        deeds();
        deedLines();
        deedNumbers();
        words();
        wrongBytes();
        faults();
    }

    private static void objects() {
        test("What it is", "An object is used for at most 512 calls after it has been made", () -> {
            HalfIsle isle = isle(ITEM);
            // a feed for each 20 bytes, end and deed are 3 calls; each carry is an answer by the one ahead of it
            for (int call = 4; call <= 511; call++) {
                is(isle.carry(0, call % 6), call == 4 ? 0 : (call - 1) % 6);
            }
            is(isle.item(0, 0), 511 % 6);
        });
        test("The public face", "public static final int NONE = -1;", () -> is(HalfIsle.NONE, -1));
        test("Promise 1 A new object", "An island without ITEMS.", () -> {
            HalfIsle isle = new HalfIsle();
            is(isle.count(0), 0);
            outside(() -> isle.item(0, 0));
            HalfIsle used = isle(ITEM);
            is(used.count(0), 1);
            is(new HalfIsle().count(0), 0);
        });
    }

    private static void tape() {
        test("Promise 2 feed", "Twenty bytes come behind the TAPE", () -> {
            HalfIsle isle = new HalfIsle();
            is(isle.feed(1, 2, 3, 4, 5), 20);
            is(isle.feed(-1, Integer.MIN_VALUE, Integer.MAX_VALUE, 0, 0), 40);
            is(isle.end(7), true);
            is(isle.feed(0, 0, 0, 0, 0), 27);
        });
        test("Promise 2 feed", "of each number the highest first", () -> {
            HalfIsle isle = new HalfIsle();
            isle.feed(0x64617920, 0x37383B64, 0x61792039, 0x20202020, 0x20202020); // day 78;day 9
            is(isle.deed(), 1);
            is(isle.count(3), 9);
            // bytes above 127 are no numbers below 0: a ROOM 255 is none, and so is 'day' with one
            isle.feed(0x64617920, 0x35FF2020, 0, 0, 0);
            isle.end(6);
            none(() -> isle.deed());
            is(isle.fault(), 5);
        });
        test("Promise 2 feed", "NONE, and none come, if it would have more than 400", () -> {
            HalfIsle isle = new HalfIsle();
            for (int n = 20; n <= 400; n += 20) {
                is(isle.feed(0, 0, 0, 0, 0), n);
            }
            is(isle.feed(1, 1, 1, 1, 1), HalfIsle.NONE);
            is(isle.end(401), false);
            is(isle.end(381), true);
            is(isle.feed(1, 1, 1, 1, 1), HalfIsle.NONE);
            is(isle.end(382), false);
            is(isle.end(380), true);
            is(isle.feed(1, 1, 1, 1, 1), 400);
        });
        test("Promise 3 end", "The TAPE has its first n bytes alone: true", () -> {
            HalfIsle isle = new HalfIsle();
            isle.feed(0x64617920, 0x35363738, 0x3B3B3B3B, 0, 0); // day 5678;;;;
            is(isle.end(20), true);
            is(isle.end(6), true);
            is(isle.end(7), false);
            is(isle.deed(), 1);
            is(isle.count(3), 56);
            is(isle.end(0), true);
            isle.feed(0x64617920, 0x35000000, 0, 0, 0);
            is(isle.end(0), true);
            is(isle.deed(), 2);
            is(isle.count(3), 56);
        });
        test("Promise 3 end", "false, and nothing happens, if it has fewer, or n is below 0", () -> {
            HalfIsle isle = new HalfIsle();
            is(isle.end(1), false);
            isle.feed(0, 0, 0, 0, 0);
            is(isle.end(21), false);
            is(isle.end(-1), false);
            is(isle.end(Integer.MIN_VALUE), false);
            is(isle.end(Integer.MAX_VALUE), false);
            is(isle.feed(0, 0, 0, 0, 0), 40);
        });
    }

    private static void deeds() {
        test("Promise 4 deed", "Uses the TAPE up", () -> {
            HalfIsle isle = new HalfIsle();
            deed(isle, "day 5");
            is(isle.end(1), false);
            is(isle.feed(0, 0, 0, 0, 0), 20);
            none(() -> isle.deed());
            is(isle.end(1), false);
            is(isle.feed(0, 0, 0, 0, 0), 20);
        });
        test("Promise 4 deed", "a text of THE DEED: how many there are", () -> {
            HalfIsle isle = new HalfIsle();
            is(deed(isle, ""), 1);
            is(deed(isle, "day 5; storm 3; " + ITEM), 2);
            none(() -> deed(isle, "none"));
            is(deed(isle, "  "), 3);
            is(isle.count(1), 3);
        });
        test("Promise 4 deed",
                "IllegalArgumentException: it is wrong; UnsupportedOperationException: there are 12.", () -> {
            HalfIsle isle = new HalfIsle();
            for (int text = 1; text <= 12; text++) {
                is(deed(isle, "storm " + text), text);
            }
            toomany(() -> deed(isle, "storm 99"));
            is(isle.end(1), false);
            none(() -> deed(isle, "storm 101"));
            is(isle.fault(), 6);
            toomany(() -> deed(isle, ""));
            is(isle.count(1), 12);
            is(isle.count(5), 12);
        });
        test("Terms, THE DEED", "THE DEED is told in texts (at most 12, one behind another)", () -> {
            HalfIsle isle = new HalfIsle();
            for (int text = 0; text < 12; text++) {
                deed(isle, "item " + (text + 1) + " home 0 side 0; worn " + text + " 7");
                is(isle.item(text, 3), text + 1);
            }
            is(isle.count(0), 12);
            is(isle.item(0, 3), 1);
            toomany(() -> deed(isle, ""));
        });
    }

    private static void deedLines() {
        test("Terms, LINE of THE DEED", "LINE { ; LINE }, at most 14: item N", () -> {
            is(deed(new HalfIsle(), lines("day 7", 14)), 1);
            wrongDeed(new HalfIsle(), lines("day 7", 15), 14 * 6);
            // two texts may have more together
            HalfIsle isle = isle(lines("day 7", 14));
            is(deed(isle, lines("day 8", 14)), 2);
        });
        test("Terms, ITEMS", "ITEMS (at most 12, numbered from 0 on)", () -> {
            HalfIsle isle = isle(lines(ITEM, 12));
            is(isle.count(0), 12);
            is(isle.item(0, 3), 5);
            is(isle.item(11, 3), 5);
            outside(() -> isle.item(12, 3));
            wrongDeed(isle, ITEM, 0);
            is(isle.count(0), 12);
        });
        test("Terms, item of THE DEED",
                "in: the ROOM where it is, HOME without; FOUND is that ROOM and WORN 0", () -> {
            HalfIsle isle = isle("item 1 home 4 side 0; item 1 home 4 side 0 in 0; item 1 home 0 side 0 in 5");
            int[] rooms = {4, 0, 5};
            for (int i = 0; i < 3; i++) {
                is(isle.item(i, 0), rooms[i]);
                is(isle.item(i, 5), rooms[i]);
                is(isle.item(i, 6), 0);
            }
        });
        test("Terms, worn of THE DEED", "I: an ITEM that there is by then", () -> {
            HalfIsle isle = isle(ITEM + "; worn 0 3; " + ITEM + "; worn 1 4");
            is(isle.item(1, 2), 4);
            deed(isle, "worn 1 9");
            is(isle.item(1, 2), 9);
            wrongDeed(isle, "worn 2 9", 5);
            wrongDeed(new HalfIsle(), "worn 0 9", 5);
            wrongDeed(new HalfIsle(), "worn 0 9;" + ITEM, 5);
        });
        test("Terms, worn of THE DEED", "N of worn: 0 to 99 (FOUND stays)", () -> {
            HalfIsle isle = isle(ITEM + "; worn 0 99");
            is(isle.item(0, 2), 99);
            is(isle.item(0, 6), 0);
            deed(isle, "worn 0 0");
            is(isle.item(0, 2), 0);
            wrongDeed(isle, "worn 0 100", 7);
        });
    }

    private static void deedNumbers() {
        test("Terms, day of THE DEED", "of day: 0 to 999.", () -> {
            HalfIsle isle = isle("day 999");
            is(isle.count(3), 999);
            deed(isle, "day 0");
            is(isle.count(3), 0);
            wrongDeed(isle, "day 1000", 4);
        });
        test("Terms, numbers of THE DEED", "Numbers are of 1 to 3 digits.", () -> {
            HalfIsle isle = isle("storm 007; day 000; day 12");
            is(isle.count(5), 7);
            is(isle.count(3), 12);
            wrongDeed(isle, "storm 0007", 6);
            wrongDeed(isle, "day 0000", 4);
            wrongDeed(isle, "day", 3);
            wrongDeed(isle, "day 99999999999999999999", 4);
        });
        test("Terms, VALUE", "VALUE 1 to 99, of a SIDE", () -> {
            HalfIsle isle = isle("item 1 home 0 side 0; item 99 home 0 side 1");
            is(isle.item(0, 3), 1);
            is(isle.item(1, 3), 99);
            is(isle.item(1, 4), 1);
            wrongDeed(isle, "item 0 home 0 side 0", 5);
            wrongDeed(isle, "item 100 home 0 side 0", 5);
        });
        test("Terms, R of THE DEED", "R: a ROOM 0 to 5", () -> {
            HalfIsle isle = isle("item 1 home 5 side 0 in 5; soil 5 1; places 5 1");
            is(isle.item(0, 1), 5);
            wrongDeed(isle, "item 1 home 6 side 0", 12);
            wrongDeed(isle, "item 1 home 0 side 0 in 6", 24);
            wrongDeed(isle, "soil 6 1", 5);
            wrongDeed(isle, "places 6 1", 7);
        });
        test("Terms, S of THE DEED", "S: 0 or 1", () -> {
            HalfIsle isle = isle("item 1 home 5 side 1; hands 1 3; hands 0 2");
            is(isle.item(0, 4), 1);
            is(isle.side(1, 0), 3);
            is(isle.side(0, 0), 2);
            wrongDeed(isle, "item 1 home 5 side 2", 19);
            wrongDeed(isle, "hands 2 3", 6);
        });
    }

    private static void words() {
        test("Terms, words", "Words are as long as a to z go on", () -> {
            HalfIsle isle = isle("item1home0side0in3;worn0 7;day12");
            is(isle.item(0, 0), 3);
            is(isle.item(0, 2), 7);
            is(isle.count(3), 12);
            wrongDeed(isle, "items 1 home 0 side 0", 0);
            wrongDeed(isle, "ite m 1 home 0 side 0", 0);
            wrongDeed(isle, "itemhome", 0);
            wrongDeed(isle, "dayz 5", 0);
            wrongDeed(isle, "daya 5", 0);
            wrongDeed(isle, "day 5z", 5);
            wrongDeed(isle, "Day 1", 0);
            // the bytes beside a and z, and a capital, end a word
            wrongDeed(isle, "day`1", 3);
            wrongDeed(isle, "day{1", 3);
            wrongDeed(isle, "dayA1", 3);
            wrongLaw(isle, "wear 1 if zz", 10);
        });
        test("Terms, blanks", "between all there may be blanks (32), also ahead and behind", () -> {
            HalfIsle isle = isle("   item  1   home 0  side    0   ;  day    5   ");
            is(isle.count(0), 1);
            is(isle.count(3), 5);
            is(law(isle, "  wear 1  if  (  item+1  <   2 )  "), 1);
            is(law(isle, "wear1if(item+1<2)"), 1);
            wrongDeed(isle, "day\t5", 3);
            wrongDeed(isle, "day 5\n", 5);
            wrongDeed(isle, "day\u00a05", 3);
            wrongDeed(isle, "\0day 5", 0);
            wrongDeed(isle, "day 1 2", 6);
        });
        test("Terms, empty texts", "A text that is empty, or blanks alone, has no LINE.", () -> {
            HalfIsle isle = new HalfIsle();
            is(deed(isle, ""), 1);
            is(deed(isle, " "), 2);
            is(deed(isle, " ".repeat(400)), 3);
            is(law(isle, ""), 0);
            is(law(isle, "   "), 0);
            is(isle.fault(), HalfIsle.NONE);
            wrongDeed(isle, ";", 0);
            wrongLaw(isle, " ;", 1);
        });
    }

    private static void wrongBytes() {
        test("Terms, the first wrong byte", "the begin of the first thing that cannot stand there", () -> {
            HalfIsle isle = new HalfIsle();
            wrongDeed(isle, "day 5 5; none", 6);
            wrongDeed(isle, "5 day", 0);
            wrongDeed(isle, "day 5 ;; day 6", 7);
            wrongDeed(isle, "item 5 side 0 home 0", 7);
            wrongDeed(isle, "item 5 0 side 0", 7);
            wrongDeed(isle, "item 5 home 0 0", 14);
            wrongDeed(isle, "item 5 home 0 side 0 in in", 24);
            wrongLaw(isle, "wear 1 if own own", 14);
            wrongLaw(isle, "wear 1 if own < 3", 14);
            wrongLaw(isle, "wear 1 if own )", 14);
            wrongLaw(isle, "wear 1 if ( own ; wear 2", 16);
            wrongLaw(isle, "wear 1 if item = 3", 15);
            wrongLaw(isle, "wear 1 if item 3", 15);
            wrongLaw(isle, "wear 1 own", 7);
        });
        test("Terms, the first wrong byte", "a number of more digits", () -> {
            wrongDeed(new HalfIsle(), "  day   0001", 8);
            wrongLaw(new HalfIsle(), "wear 0001", 5);
            wrongLaw(new HalfIsle(), "wear 1 if day < 0182", 16);
        });
        test("Terms, the first wrong byte", "or out of its bounds", () -> {
            wrongDeed(new HalfIsle(), "day 5; storm 101", 13);
            wrongDeed(new HalfIsle(), "hands 0 21", 8);
            wrongLaw(new HalfIsle(), "wear 21 if", 5);
        });
        test("Terms, the first wrong byte", "or that tells none that can be", () -> {
            wrongDeed(new HalfIsle(), "soil 6 99", 5);
            wrongDeed(new HalfIsle(), "hands 2 99", 6);
            wrongDeed(new HalfIsle(), ITEM + ";worn 1 100", ITEM.length() + 6);
        });
        test("Terms, the first wrong byte", "a word that is none", () -> {
            wrongDeed(new HalfIsle(), "day 5; days 6", 7);
            wrongDeed(new HalfIsle(), "wear 5", 0);
            wrongLaw(new HalfIsle(), "worn 5", 0);
            wrongLaw(new HalfIsle(), "wear 1 when own", 7);
            wrongLaw(new HalfIsle(), "wear 1 if soil < 3", 10);
        });
        test("Terms, the first wrong byte", "the ( or not that is a 7th one deep", () -> {
            wrongLaw(new HalfIsle(), "wear 1 if ((((((( own", 16);
            wrongLaw(new HalfIsle(), "wear 1 if not not not not not not not own", 34);
            wrongLaw(new HalfIsle(), "wear 1 if (((not not ( ( own", 23);
        });
        test("Terms, the first wrong byte", "of a LINE, an ITEM too many, the first word", () -> {
            wrongDeed(new HalfIsle(), lines("day 7", 14) + " ;  day 7", 87);
            wrongDeed(new HalfIsle(), lines("day 7", 14) + ";", 84);
            wrongLaw(new HalfIsle(), lines("wear 1", 12) + "; wear 1", 85);
            wrongLaw(new HalfIsle(), lines("wear 1", 12) + ";", 84);
            HalfIsle isle = isle(lines(ITEM, 12));
            wrongDeed(isle, "day 1; item 5 home 0 side 0", 7);
            wrongDeed(isle, "day 1; item 0 home 9", 7);
        });
        test("Terms, the first wrong byte", "or the text's length, if more must come", () -> {
            wrongDeed(new HalfIsle(), "item 5 home 0 side", 18);
            wrongDeed(new HalfIsle(), "day 5;", 6);
            wrongDeed(new HalfIsle(), "day  ", 5);
            wrongDeed(new HalfIsle(), " ".repeat(397) + "day", 400);
            wrongLaw(new HalfIsle(), "wear 1 if ( own ", 16);
            wrongLaw(new HalfIsle(), "wear 1 if not", 13);
            wrongLaw(new HalfIsle(), "wear 1 if item <", 16);
            wrongLaw(new HalfIsle(), "wear 1 if item + 1", 18);
        });
        test("Terms, wrong texts", "Of a wrong text nothing stays.", () -> {
            HalfIsle isle = isle(ITEM, "wear 1");
            wrongDeed(isle, ITEM + "; hands 0 7; soil 0 7; places 0 7; storm 7; worn 0 7; day 7; none", 81);
            is(isle.count(0), 1);
            is(isle.count(1), 1);
            is(isle.side(0, 0), 1);
            is(isle.room(0, 0), 0);
            is(isle.room(0, 1), 12);
            is(isle.count(5), 0);
            is(isle.item(0, 2), 0);
            is(isle.count(3), 0);
            wrongLaw(isle, "wear 3; wear 4; none", 16);
            is(isle.count(2), 1);
            is(isle.does(0, 0), 1);
        });
    }

    private static void faults() {
        test("Promise 6 fault", "The first wrong byte of the latest text that was read", () -> {
            HalfIsle isle = new HalfIsle();
            wrongDeed(isle, "day 1000", 4);
            wrongLaw(isle, "none", 0);
            wrongDeed(isle, "day 5;", 6);
            // what else throws, or uses the TAPE up, is no text
            none(() -> Checks.traces(isle, true, 1));
            outside(() -> isle.room(6, 0));
            is(isle.fault(), 6);
        });
        test("Promise 6 fault", "NONE without one, and ahead of any", () -> {
            HalfIsle isle = new HalfIsle();
            is(isle.fault(), HalfIsle.NONE);
            wrongDeed(isle, "none", 0);
            deed(isle, "day 5");
            is(isle.fault(), HalfIsle.NONE);
            wrongLaw(isle, "none", 0);
            law(isle, "");
            is(isle.fault(), HalfIsle.NONE);
        });
    }
}
