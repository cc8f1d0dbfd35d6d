/** Promises 20 (type), 21 (clearText), 22 (fault) and 23 (play). */
public final class TextsTest {
    public static void main(String[] args) {
        types();
        clears();
        faultRefuses();
        brokenForms();
        ordersThatAreNotPossible();
        ordersBehindOthers();
        soundTexts();
        faultChangesNothing();
        plays();
        playRefuses();
        playOfNothing();
        longestText();
        Checks.finish("TextsTest");
    }

    private static void types() {
        ShipFixtures desk = new ShipFixtures();
        for (int wild : Checks.WILD) {
            Checks.due("type(" + wild + ")", desk.type(wild), Checks.BAD);
        }
        Checks.due("type(31)", desk.type(31), Checks.BAD);
        Checks.due("type(127)", desk.type(127), Checks.BAD);
        Checks.due("type(0)", desk.type(0), Checks.BAD);
        Checks.due("an s 65536 further", desk.type(65536 + 's'), Checks.BAD);
        Checks.due("type(32)", desk.type(32), 1);
        Checks.due("type(126)", desk.type(126), 2);
        for (int k = 3; k <= 60; k++) {
            Checks.due("character " + k, desk.type(32 + k), k);
        }
        Checks.due("character 61", desk.type(65), Checks.LIMIT);
        Checks.due("INVALID_ARGUMENT goes first", desk.type(127), Checks.BAD);
        Checks.due("count(8)", desk.count(8), 60);
        Checks.due("count(7)", desk.count(7), 0);
    }

    private static void clears() {
        ShipFixtures desk = new ShipFixtures();
        Checks.write(desk, "s1,1,1,1,1;");
        Checks.due("clearText()", desk.clearText(), 11);
        Checks.due("count(8)", desk.count(8), 0);
        Checks.due("clearText() again", desk.clearText(), 0);
        Checks.write(desk, "d");
        // of the text that was there nothing is left behind
        Checks.dueFault("d", desk, 0, 1, 1);
        Checks.due("clearText()", desk.clearText(), 1);
    }

    private static void faultRefuses() {
        ShipFixtures desk = new ShipFixtures();
        for (int wild : Checks.WILD) {
            Checks.due("fault(" + wild + ")", desk.fault(wild), Checks.BAD);
        }
        Checks.due("fault(3)", desk.fault(3), Checks.BAD);
        Checks.dueFault("(empty)", desk, Checks.NONE, Checks.NONE, Checks.NONE, Checks.BAD);
    }

    private static void brokenForms() {
        broken(";", 0);
        broken(" ", 0);
        broken("x", 0);
        broken("S1,1,1,1,1;", 0);
        broken("1", 0);
        broken("p1,1,1;", 0);
        broken("s", 1);
        broken("s;", 1);
        broken("s,", 1);
        broken("s ", 1);
        broken("s-1,1,1,1,1;", 1);
        broken("ss1,1,1,1,1;", 1);
        broken("s/", 1);
        broken("s:", 1);
        broken("s1", 2);
        broken("s12", 3);
        broken("s123", 4);
        broken("s1234", 4);
        broken("s1234,1,1,1,1;", 4);
        broken("s0001,1,1,1,1;", 4);
        broken("s1;", 2);
        broken("s1 ,", 2);
        broken("s1,", 3);
        broken("s1,,", 3);
        broken("s1,1,1,1;", 8);
        broken("s1,1,1,1,1", 10);
        broken("s1,1,1,1,1,", 10);
        broken("s1,1,1,1,1,1;", 10);
        broken("s1,1,1,1,", 9);
        broken("c1,0,1,0,9,9", 12);
        broken("c1,0,1,0,9;", 10);
        broken("c1,0,1,0,9,9,", 12);
        broken("f0;", 2);
        broken("f0,0", 4);
        broken("f0,0,", 4);
        broken("f0,0,0;", 4);
        broken("d0;", 2);
        broken("d0,", 3);
        broken("d0,1", 4);
        broken("d0,1,", 4);
        broken("d000,0001;", 8);
    }

    private static void broken(String text, int cause) {
        ShipFixtures desk = new ShipFixtures();
        Checks.write(desk, text);
        Checks.dueFault(text, desk, 0, 1, cause);
        Checks.due("play() of " + text, desk.play(), Checks.NOT);
        Checks.write(desk, "s1,1,1,1,1;" + text);
        Checks.dueFault("s1,1,1,1,1;" + text, desk, 11, 1, cause);
        Checks.due("play() of s1,1,1,1,1;" + text, desk.play(), Checks.NOT);
        Checks.dueCounts("not played", desk, 0, 0, 0, 0, Checks.MILLION, 0, 0, 0, 11 + text.length());
    }

    private static void ordersThatAreNotPossible() {
        impossible("s0,1,1,1,1;", Checks.BAD);
        impossible("s1,21,1,1,1;", Checks.BAD);
        impossible("s1,1,100,1,1;", Checks.BAD);
        impossible("s1,1,1,8,1;", Checks.BAD);
        impossible("c1,0,0,0,0,1;", Checks.BAD);
        impossible("c1,0,1,9,8,1;", Checks.BAD);
        impossible("c1,0,1,0,0,100;", Checks.BAD);
        impossible("f0,0;", Checks.BAD);
        impossible("f1,0;", Checks.BAD);
        impossible("f0,1;", Checks.BAD);
        impossible("d0,0;", Checks.BAD);
        impossible("d0,100;", Checks.BAD);
        impossible("d1,1;", Checks.BAD);
        ShipFixtures desk = new ShipFixtures();
        desk.ship(9, 9, 9, 0, 999);
        for (int k = 0; k < 10; k++) {
            desk.cargo(k + 1, 0, 1, 0, 99, 9);
            desk.delay(0, 99);
        }
        impossibleOn(desk, "f0,0;", Checks.NOT);
        impossibleOn(desk, "c1,0,1,0,99,9;", Checks.LIMIT);
        impossibleOn(desk, "c1,0,1,0,99,0;", Checks.BAD);
        impossibleOn(desk, "d0,11;", Checks.LIMIT);
        impossibleOn(desk, "d0,011;", Checks.LIMIT);
        for (int k = 0; k < 4; k++) {
            desk.ship(1, 1, 1, 1, 1);
        }
        impossibleOn(desk, "s1,1,1,1,1;", Checks.LIMIT);
    }

    private static void impossible(String text, int cause) {
        impossibleOn(new ShipFixtures(), text, cause);
    }

    private static void impossibleOn(ShipFixtures desk, String text, int cause) {
        int states = desk.count(7);
        Checks.write(desk, text);
        Checks.dueFault(text, desk, 0, 2, cause);
        Checks.due("play() of " + text, desk.play(), Checks.NOT);
        Checks.due("no change", desk.count(7), states);
    }

    private static void ordersBehindOthers() {
        ShipFixtures desk = new ShipFixtures();
        fault(desk, "s9,9,9,0,0;c9,1,2,0,99,9;f0,0;f0,0;", 30, 2, Checks.NOT);
        fault(desk, "s9,9,9,0,0;c9,1,2,0,99,9;f0,1;x", 25, 2, Checks.BAD);
        fault(desk, "s9,9,9,0,0;c9,1,2,0,99,9;f0,0;x", 30, 1, 0);
        fault(desk, "s9,9,9,0,0;c10,1,2,0,99,9;f0,0;", 26, 2, Checks.NOT);
        fault(desk, "s9,9,9,0,0;c9,1,2,0,1,9;f0,0;d0,1;f0,0;", 34, 2, Checks.NOT);
        fault(desk, "s9,9,9,0,0;c9,1,2,0,1,9;d0,1;f0,0;", 29, 2, Checks.NOT);
        fault(desk, "s1,1,1,1,1;;", 11, 1, 0);
        fault(desk, "s1,1,1,1,1; s1,1,1,1,1;", 11, 1, 0);
        Checks.due("none of them is done", desk.count(0), 0);
        desk.ship(9, 9, 9, 0, 0);
        fault(desk, "f0,0;c9,1,2,0,99,9;", 0, 2, Checks.BAD);
        fault(desk, "c9,1,2,0,99,9;f0,0;f1,0;", 19, 2, Checks.BAD);
    }

    private static void fault(ShipFixtures desk, String text, int position, int reason, int cause) {
        Checks.write(desk, text);
        Checks.dueFault(text, desk, position, reason, cause);
        Checks.due("play() of " + text, desk.play(), Checks.NOT);
    }

    private static void soundTexts() {
        ShipFixtures desk = new ShipFixtures();
        Checks.write(desk, "s099,020,001,007,999;");
        Checks.dueFault("zeros ahead", desk, Checks.NONE, Checks.NONE, Checks.NONE);
        Checks.due("play()", desk.play(), 1);
        Checks.dueShip("zeros ahead", desk, 0, 99, 20, 1, 7, 999);
        Checks.write(desk, "c012,03,4,056,789,90;");
        Checks.dueFault("cargo", desk, Checks.NONE);
        Checks.due("play()", desk.play(), 1);
        Checks.dueCargo("from a text", desk, 0, 12, 3, 4, 56, 789, 90, 0);
        Checks.write(desk, "d0,99;d000,9;");
        Checks.dueFault("delays", desk, Checks.NONE);
        Checks.due("play()", desk.play(), 2);
        Checks.due("delayed", desk.shipOf(0, 6), 1107);
    }

    private static void faultChangesNothing() {
        ShipFixtures desk = new ShipFixtures();
        Checks.write(desk, "s9,9,9,0,0;c9,1,2,0,99,9;f0,0;d0,9;");
        Checks.dueFault("sound", desk, Checks.NONE, Checks.NONE, Checks.NONE);
        Checks.dueFault("sound", desk, Checks.NONE, Checks.NONE, Checks.NONE);
        Checks.dueCounts("nothing done", desk, 0, 0, 0, 0, Checks.MILLION, 0, 0, 0, 35);
    }

    private static void plays() {
        ShipFixtures desk = new ShipFixtures();
        desk.port(0, 0, 0);
        Checks.write(desk, "s50,10,20,0,5;c40,1,3,8,12,90;f0,0;d0,1;");
        Checks.due("play()", desk.play(), 4);
        Checks.dueCounts("played", desk, 1, 1, 0, 1, Checks.MILLION, 0, 0, 2, 40);
        Checks.dueShip("played", desk, 0, 50, 10, 20, 3, 14, 0, 6, 1, Checks.MILLION, Checks.MILLION + 3440);
        Checks.dueFixture("played", desk, 0, 0, 0, 7, 8, 14, Checks.MILLION + 3440, 5);
        // its fix and its delay are for the first ship, which is too late now
        Checks.dueFault("again", desk, 30, 2, Checks.NOT);
        Checks.due("play() again", desk.play(), Checks.NOT);
        Checks.due("undo()", desk.undo(), 1);
        Checks.dueCounts("undone", desk, 0, 0, 0, 0, Checks.MILLION, 0, 0, 1, 40);
        Checks.due("play() again", desk.play(), 4);
        Checks.write(desk, "d0,9;");
        Checks.due("play() that cancels", desk.play(), 1);
        Checks.dueCounts("cancelled", desk, 1, 1, 0, 0, Checks.MILLION, 1, 0, 3, 5);
    }

    private static void playRefuses() {
        ShipFixtures desk = new ShipFixtures();
        Checks.write(desk, "s9,9,9,0,0;c9,1,2,0,99,9;f0,0;d0,0;");
        Checks.due("play()", desk.play(), Checks.NOT);
        Checks.dueCounts("nothing done", desk, 0, 0, 0, 0, Checks.MILLION, 0, 0, 0, 35);
        Checks.write(desk, "s9,9,9,0,0");
        Checks.due("play() without the end", desk.play(), Checks.NOT);
        Checks.due("type(';')", desk.type(';'), 11);
        Checks.due("play() with it", desk.play(), 1);
    }

    private static void playOfNothing() {
        ShipFixtures desk = new ShipFixtures();
        Checks.due("play()", desk.play(), 0);
        Checks.due("a change", desk.count(7), 1);
        Checks.due("undo()", desk.undo(), 0);
        desk.ship(9, 9, 9, 0, 0);
        Checks.due("play()", desk.play(), 0);
        Checks.due("undo()", desk.undo(), 1);
        Checks.due("the ship is there", desk.count(0), 1);
    }

    private static void longestText() {
        ShipFixtures desk = new ShipFixtures();
        Checks.write(desk, "s1,1,1,1,1;s2,1,1,1,1;s3,1,1,1,1;s4,1,1,1,1;s5,1,1,1,1;d4,9;");
        Checks.due("60 characters", desk.count(8), 60);
        Checks.dueFault("60 characters", desk, Checks.NONE);
        Checks.due("play()", desk.play(), 6);
        Checks.due("the last order", desk.shipOf(4, 6), 10);
        Checks.dueFault("again", desk, 0, 2, Checks.LIMIT);
        Checks.write(desk, "d0,1;d0,1;d0,1;d0,1;d0,1;d0,1;d0,1;d0,1;d0,1;d0,1;d0,1;d0,1;");
        Checks.due("12 orders", desk.play(), 12);
        Checks.due("12 days", desk.shipOf(0, 6), 13);
        Checks.write(desk, "d0,1;d0,1;d0,1;d0,1;d0,1;d0,1;d0,1;d0,1;d0,1;d0,1;d0,1;d000,");
        Checks.dueFault("ends at 60", desk, 55, 1, 5);
    }
}
