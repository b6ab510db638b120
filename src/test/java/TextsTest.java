/** Promises 1 to 6: a new object, the TAPE, the texts and the first wrong byte. */
public final class TextsTest {
    public static void main(String[] args) {
        newObject();
        feedAndEnd();
        deedIsRead();
        deedIsWrong();
        deedIsFull();
        lawIsRead();
        lawIsWrong();
        lawIsDeep();
        faultFollowsTexts();
        Checks.ends();
    }

    private static void newObject() {
        HalfIsle isle = new HalfIsle();
        Checks.is("ITEMS of a new one", isle.count(0), 0);
        Checks.is("texts of a new one", isle.count(1), 0);
        Checks.is("THE LAW of a new one", isle.count(2), HalfIsle.NONE);
        Checks.is("DAY of a new one", isle.count(3), 0);
        Checks.is("THERE of a new one", isle.count(4), 0);
        for (int what = 5; what <= 11; what++) {
            Checks.is("count(" + what + ") of a new one", isle.count(what), 0);
        }
        for (int room = 0; room < 6; room++) {
            Checks.is("SOIL of a new ROOM", isle.room(room, 0), 0);
            Checks.is("PLACES of a new ROOM", isle.room(room, 1), 12);
        }
        for (int side = 0; side < 2; side++) {
            Checks.is("HANDS of a new SIDE", isle.side(side, 0), 1);
            Checks.is("OWES of a new SIDE", isle.side(side, 1), 0);
        }
        Checks.is("fault of a new one", isle.fault(), HalfIsle.NONE);
        Checks.is("SEED of a new one", isle.seed(7), 1);
        Checks.is("undo of a new one", isle.undo(), false);
        Checks.is("back of a new one", isle.back(), false);
        Checks.is("NONE", HalfIsle.NONE, -1);
    }

    private static void feedAndEnd() {
        HalfIsle isle = new HalfIsle();
        Checks.is("end of no bytes", isle.end(1), false);
        Checks.is("end at 0", isle.end(0), true);
        for (int n = 20; n <= 400; n += 20) {
            Checks.is("feed to " + n, isle.feed(0, 0, 0, 0, 0), n);
        }
        Checks.is("feed beyond 400", isle.feed(0, 0, 0, 0, 0), HalfIsle.NONE);
        Checks.is("nothing came", isle.end(401), false);
        Checks.is("end below 0", isle.end(-1), false);
        Checks.is("still 400", isle.end(400), true);
        Checks.is("end at 381", isle.end(381), true);
        Checks.is("feed to 401", isle.feed(0, 0, 0, 0, 0), HalfIsle.NONE);
        Checks.is("end at 380", isle.end(380), true);
        Checks.is("feed to 400 again", isle.feed(0, 0, 0, 0, 0), 400);
        Checks.is("end at 0", isle.end(0), true);
        // 'day 12  ' by numbers, the highest byte first, and a byte above 127
        Checks.is("feed", isle.feed(0x64617920, 0x31322020, 0xE9000000, 0, 0), 20);
        Checks.is("end at 8", isle.end(8), true);
        Checks.is("deed of the bytes", isle.deed(), 1);
        Checks.is("day of the bytes", isle.count(3), 12);
        isle.feed(0x64617920, 0x31322020, 0xE9000000, 0, 0);
        isle.end(9);
        Checks.none("deed with byte 233", isle::deed);
        Checks.is("byte 233", isle.fault(), 8);
        Checks.is("the TAPE was used up", isle.end(1), false);
    }

    private static void deedIsRead() {
        HalfIsle isle = new HalfIsle();
        Checks.is("first text", Checks.deed(isle, "item 30 home 2 side 1"), 1);
        Checks.is("second text", Checks.deed(isle, "  item7home0side0in5;worn 1 42 ; worn 0 007  "), 2);
        Checks.is("empty text", Checks.deed(isle, ""), 3);
        Checks.is("blanks", Checks.deed(isle, "    "), 4);
        Checks.is("ITEMS", isle.count(0), 2);
        Checks.is("HOME without in", isle.item(0, 0), 2);
        Checks.is("in", isle.item(1, 0), 5);
        Checks.is("HOME", isle.item(1, 1), 0);
        HalfIsle least = Checks.isle("storm 9; storm 0; item 1 home 5 side 0 in 0; worn 0 9; worn 0 0; soil 0 0");
        Checks.is("storm 0", least.count(5), 0);
        Checks.is("in 0", least.item(0, 0), 0);
        Checks.is("worn 0", least.item(0, 2), 0);
        Checks.is("worn 1", isle.item(1, 2), 42);
        Checks.is("worn 0", isle.item(0, 2), 7);
        Checks.is("FOUND stays", isle.item(1, 6), 0);
        Checks.is("FOUND ROOM is in", isle.item(1, 5), 5);
        Checks.is("rest", Checks.deed(isle,
                "hands 0 0;hands 1 20;soil 0 99;soil 5 1;places 0 0;places 5 12;storm 100;day 999;day 0;day 182"), 5);
        Checks.is("hands 0", isle.side(0, 0), 0);
        Checks.is("hands 1", isle.side(1, 0), 20);
        Checks.is("soil 0", isle.room(0, 0), 99);
        Checks.is("soil 5", isle.room(5, 0), 1);
        Checks.is("places 0", isle.room(0, 1), 0);
        Checks.is("storm", isle.count(5), 100);
        Checks.is("day", isle.count(3), 182);
        Checks.is("SOILED stays", isle.count(7), 0);
        Checks.is("14 lines", Checks.deed(isle, "day 1;day 1;day 1;day 1;day 1;day 1;day 1;day 1;day 1;day 1;day 1;"
                + "day 1;day 1;day 14"), 6);
        Checks.is("last of 14 lines", isle.count(3), 14);
    }

    private static void deedIsWrong() {
        HalfIsle isle = Checks.isle("item 1 home 0 side 0");
        isle.mend(0);
        Checks.wrongDeed(isle, "item", 4);
        Checks.wrongDeed(isle, "item  ", 6);
        Checks.wrongDeed(isle, "item 0 home 1 side 0", 5);
        Checks.wrongDeed(isle, "item 100 home 1 side 0", 5);
        Checks.wrongDeed(isle, "item 0009 home 1 side 0", 5);
        Checks.wrongDeed(isle, "item 1 home 6 side 0", 12);
        Checks.wrongDeed(isle, "item 1 home 1 side 2", 19);
        Checks.wrongDeed(isle, "item 1 home 1 side 0 in", 23);
        Checks.wrongDeed(isle, "item 1 home 1 side 0 in 6", 24);
        Checks.wrongDeed(isle, "item 1 home 1 side 0 in 5 5", 26);
        Checks.wrongDeed(isle, "item 1 side 0", 7);
        Checks.wrongDeed(isle, "items 1 home 1 side 0", 0);
        Checks.wrongDeed(isle, "Item 1 home 1 side 0", 0);
        Checks.wrongDeed(isle, "day 1;", 6);
        Checks.wrongDeed(isle, "day 1; ", 7);
        Checks.wrongDeed(isle, ";day 1", 0);
        Checks.wrongDeed(isle, "day 1 day 2", 6);
        Checks.wrongDeed(isle, "day 1000", 4);
        Checks.wrongDeed(isle, "day -1", 4);
        Checks.wrongDeed(isle, "day 1\t", 5);
        Checks.wrongDeed(isle, "hands 2 1", 6);
        Checks.wrongDeed(isle, "hands 0 21", 8);
        Checks.wrongDeed(isle, "soil 6 1", 5);
        Checks.wrongDeed(isle, "soil 0 100", 7);
        Checks.wrongDeed(isle, "places 6 1", 7);
        Checks.wrongDeed(isle, "places 0 13", 9);
        Checks.wrongDeed(isle, "storm 101", 6);
        Checks.wrongDeed(isle, "worn 1 5", 5);
        Checks.wrongDeed(isle, "worn 0 100", 7);
        Checks.wrongDeed(isle, "wear 1", 0);
        Checks.wrongDeed(isle, "day 1;day 1;day 1;day 1;day 1;day 1;day 1;day 1;day 1;day 1;day 1;day 1;day 1;"
                + "day 1; day 1", 85);
        Checks.wrongDeed(isle, "day 1;day 1;day 1;day 1;day 1;day 1;day 1;day 1;day 1;day 1;day 1;day 1;day 1;"
                + "day 1;", 84);
        Checks.wrongDeed(isle, "soil 0 9; item 9 home 1 side 1; storm 5; day x", 45);
        Checks.is("nothing stays: SOIL", isle.room(0, 0), 0);
        Checks.is("nothing stays: ITEMS", isle.count(0), 1);
        Checks.is("nothing stays: STORM", isle.count(5), 0);
        Checks.is("nothing stays: DAY", isle.count(3), 0);
        Checks.is("nothing stays: texts", isle.count(1), 1);
        Checks.is("nothing stays: what is remembered", isle.count(11), 1);
        Checks.is("worn in its own text", Checks.deed(isle, "item 9 home 1 side 1;worn 1 5"), 2);
    }

    private static void deedIsFull() {
        HalfIsle isle = new HalfIsle();
        String two = "item 9 home 1 side 1;item 9 home 1 side 1";
        String six = two + ";" + two + ";" + two;
        Checks.deed(isle, six);
        Checks.deed(isle, six);
        Checks.is("12 ITEMS", isle.count(0), 12);
        Checks.wrongDeed(isle, "day 5; item 9 home 1 side 1", 7);
        Checks.is("no 13th ITEM", isle.count(0), 12);
        for (int n = 3; n <= 12; n++) {
            Checks.is("text " + n, Checks.deed(isle, "day " + n), n);
        }
        Checks.wrongDeed(isle, "day x", 4);
        isle.take();
        Checks.refused("13th text", UnsupportedOperationException.class, () -> Checks.deed(isle, "day 200"));
        Checks.is("the TAPE was used up", isle.end(1), false);
        Checks.is("13th text was read", isle.fault(), HalfIsle.NONE);
        Checks.is("13th text does nothing", isle.count(3), 12);
        Checks.is("13th text forgets nothing", isle.count(11), 1);
        Checks.is("still 12", isle.count(1), 12);
        Checks.rightLaw(isle, "wear 1", 1);
    }

    private static void lawIsRead() {
        HalfIsle isle = Checks.isle("item 30 home 2 side 1 in 3; soil 3 40; day 184; worn 0 8");
        Checks.rightLaw(isle, "", 0);
        Checks.is("THE LAW without LINES", isle.count(2), 0);
        Checks.rightLaw(isle, "  ", 0);
        Checks.rightLaw(isle, "wear 0; shift 20 ;soil 1if own", 3);
        Checks.rightLaw(isle, "wear1;wear1;wear1;wear1;wear1;wear1;wear1;wear1;wear1;wear1;wear1;wear1", 12);
        Checks.is("sum of 12 LINES", isle.does(0, 0), 12);
        Checks.rightLaw(isle, "wear 1 if 999>998 and 007<8 and not 5<5 and not 5>5", 1);
        Checks.is("compared", isle.does(0, 0), 1);
        Checks.rightLaw(isle, "wear 7", 1);
        Checks.is("in place of the one before", isle.does(0, 0), 7);
        holds(isle, "item+1>0 and item<1", true);
        holds(isle, "room>2 and room<4", true);
        holds(isle, "worn>7 and worn<9", true);
        holds(isle, "value>29 and value<31", true);
        holds(isle, "side>0 and side<2", true);
        holds(isle, "day>1 and day<3", true);
        holds(isle, "soiled>39 and soiled<41", true);
        holds(isle, "own", true);
        holds(isle, "home", false);
        holds(isle, "not home", true);
        holds(isle, "not not home", false);
        holds(isle, "home or own", true);
        holds(isle, "home and own", false);
        // and binds closer than or, not closer than and
        holds(isle, "own or home and home", true);
        holds(isle, "(own or home) and home", false);
        holds(isle, "home and home or own", true);
        holds(isle, "not home or own and home", true);
        holds(isle, "not home and home", false);
        holds(isle, "not (home and home)", true);
        holds(isle, "not (home or own)", false);
        holds(isle, "room + room + 1 > worn + 0 + 0 ", false);
        holds(isle, "room+room+3>worn", true);
        holds(isle, "1<2or1<2and1>2", true);
    }

    private static void holds(HalfIsle isle, String condition, boolean want) {
        Checks.rightLaw(isle, "wear 3 if " + condition, 1);
        Checks.is("'" + condition + "'", isle.does(0, 0), want ? 3 : 0);
    }

    private static void lawIsWrong() {
        HalfIsle isle = Checks.isle("item 1 home 0 side 0", "wear 9");
        isle.mend(0);
        Checks.wrongLaw(isle, "wear", 4);
        Checks.wrongLaw(isle, "wear ;", 5);
        Checks.wrongLaw(isle, "wear 21", 5);
        Checks.wrongLaw(isle, "wear 0001", 5);
        Checks.wrongLaw(isle, "worn 1", 0);
        Checks.wrongLaw(isle, "5", 0);
        Checks.wrongLaw(isle, "wear 1;", 7);
        Checks.wrongLaw(isle, "wear 1 wear 1", 7);
        Checks.wrongLaw(isle, "wear 1 if", 9);
        Checks.wrongLaw(isle, "wear 1 if ;", 10);
        Checks.wrongLaw(isle, "wear 1 if own own", 14);
        Checks.wrongLaw(isle, "wear 1 if own < 1", 14);
        Checks.wrongLaw(isle, "wear 1 if 1", 11);
        Checks.wrongLaw(isle, "wear 1 if 1 and 2<3", 12);
        Checks.wrongLaw(isle, "wear 1 if 1<", 12);
        Checks.wrongLaw(isle, "wear 1 if 1<2<3", 13);
        Checks.wrongLaw(isle, "wear 1 if 1+<3", 12);
        Checks.wrongLaw(isle, "wear 1 if 1<2+", 14);
        Checks.wrongLaw(isle, "wear 1 if 1<1000", 12);
        Checks.wrongLaw(isle, "wear 1 if 1<own", 12);
        Checks.wrongLaw(isle, "wear 1 if 1=2", 11);
        Checks.wrongLaw(isle, "wear 1 if (own", 14);
        Checks.wrongLaw(isle, "wear 1 if (own;wear 1", 14);
        Checks.wrongLaw(isle, "wear 1 if own)", 13);
        Checks.wrongLaw(isle, "wear 1 if ()", 11);
        Checks.wrongLaw(isle, "wear 1 if (1)<2", 12);
        Checks.wrongLaw(isle, "wear 1 if not", 13);
        Checks.wrongLaw(isle, "wear 1 if own or", 16);
        Checks.wrongLaw(isle, "wear 1 if own or and own", 17);
        Checks.wrongLaw(isle, "wear 1 if if own", 10);
        Checks.wrongLaw(isle, "wear 1 if notown", 10);
        Checks.wrongLaw(isle, "wear1;wear1;wear1;wear1;wear1;wear1;wear1;wear1;wear1;wear1;wear1;wear1; wear1", 73);
        Checks.wrongLaw(isle, "wear1;wear1;wear1;wear1;wear1;wear1;wear1;wear1;wear1;wear1;wear1;wear1;", 72);
        Checks.is("THE LAW before stays", isle.does(0, 0), 9);
        Checks.is("its LINES stay", isle.count(2), 1);
        Checks.is("what is remembered stays", isle.count(11), 1);
    }

    private static void lawIsDeep() {
        HalfIsle isle = Checks.isle("item 1 home 0 side 0");
        Checks.rightLaw(isle, "wear 1 if ((((((own))))))", 1);
        Checks.is("6 deep", isle.does(0, 0), 1);
        Checks.rightLaw(isle, "wear 1 if not not not not not not own", 1);
        Checks.is("6 nots", isle.does(0, 0), 1);
        Checks.rightLaw(isle, "wear 1 if not(not(not(own))) or not(not(not(1<2)))or own", 1);
        Checks.wrongLaw(isle, "wear 1 if (((((((own)))))))", 16);
        Checks.wrongLaw(isle, "wear 1 if not(not(not(not own)))", 22);
        Checks.wrongLaw(isle, "wear 1 if ((((((not own))))))", 16);
        Checks.wrongLaw(isle, "wear 1 if not not not not not not not own", 34);
        Checks.rightLaw(isle, "wear 1 if (((((not own and not own and (own)))))); wear 2 if ((((((own))))))", 2);
        Checks.rightLaw(isle, "soil 1 if not own and not own and not own and not own and not own and not own and not own"
                + " and not (own) or ((((((own))))))", 1);
    }

    private static void faultFollowsTexts() {
        HalfIsle isle = new HalfIsle();
        Checks.wrongLaw(isle, "wear x", 5);
        Checks.none("traces are no text", () -> Checks.traces(isle, true, 6, 0));
        Checks.is("fault stays", isle.fault(), 5);
        isle.image();
        Checks.deed(isle, "day 4");
        Checks.is("fault of a right one", isle.fault(), HalfIsle.NONE);
        Checks.wrongDeed(isle, "day", 3);
        isle.back();
        Checks.is("fault stays going back", isle.fault(), 3);
        isle.take();
        Checks.wrongLaw(isle, "wear 1 if", 9);
        isle.undo();
        Checks.is("fault stays undone", isle.fault(), 9);
    }
}
