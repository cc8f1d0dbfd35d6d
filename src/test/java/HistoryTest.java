/** Promises 18 (count) and 19 (undo). */
public final class HistoryTest {
    public static void main(String[] args) {
        countRefuses();
        everyChangeCounts();
        otherCallsDoNot();
        fiveStates();
        undoRestoresAll();
        undoSettleAndDelay();
        undoLeavesTheText();
        undoThenGoOn();
        Checks.finish("HistoryTest");
    }

    private static void countRefuses() {
        ShipFixtures desk = new ShipFixtures();
        for (int wild : Checks.WILD) {
            Checks.due("count(" + wild + ")", desk.count(wild), Checks.BAD);
        }
        Checks.due("count(9)", desk.count(9), Checks.BAD);
        Checks.write(desk, "abc");
        Checks.due("count(8)", desk.count(8), 3);
    }

    private static void everyChangeCounts() {
        ShipFixtures desk = new ShipFixtures();
        desk.port(0, 0, 0);
        Checks.due("port", desk.count(7), 1);
        desk.ship(9, 9, 9, 0, 0);
        Checks.due("ship", desk.count(7), 2);
        desk.cargo(9, 1, 2, 0, 99, 9);
        Checks.due("cargo", desk.count(7), 3);
        desk.fix(0, 0);
        Checks.due("fix", desk.count(7), 4);
        Checks.due("undo()", desk.undo(), 3);
        Checks.due("undo()", desk.undo(), 2);
        desk.delay(0, 1);
        Checks.due("delay", desk.count(7), 3);
        desk.play();
        Checks.due("play", desk.count(7), 4);
        ownHistoryOf(true);
        ownHistoryOf(false);
    }

    /** callOff and settle, each with room in the history. */
    private static void ownHistoryOf(boolean callOff) {
        ShipFixtures desk = new ShipFixtures();
        Checks.write(desk, "s9,9,9,0,0;c9,1,2,0,99,9;f0,0;");
        Checks.due("play()", desk.play(), 3);
        Checks.due("one change", desk.count(7), 1);
        if (callOff) {
            desk.callOff(0);
        } else {
            desk.settle(0);
        }
        Checks.due("callOff or settle", desk.count(7), 2);
        Checks.due("undo()", desk.undo(), 1);
        Checks.dueCargo("fixed again", desk, 0, 9, 1, 2, 0, 99, 9, 1, 0);
    }

    private static void otherCallsDoNot() {
        ShipFixtures desk = new ShipFixtures();
        Checks.write(desk, "s9,9,9,0,0;c9,1,2,0,99,9;");
        desk.play();
        desk.play();
        desk.fix(0, 0);
        desk.fault(0);
        desk.shipOf(0, 0);
        desk.cargoOf(0, 0);
        desk.fixtureOf(0, 0, 0);
        desk.distance(0, 1);
        desk.voyage(0, 0, 0);
        desk.bestCargo(0);
        desk.bestShip(0);
        desk.plan(0);
        desk.slack(0);
        desk.count(0);
        desk.clearText();
        desk.type('s');
        desk.play();
        desk.fix(0, 0);
        desk.port(0, 0, 0);
        desk.callOff(1);
        desk.delay(0, 0);
        desk.ship(0, 0, 0, 0, 0);
        desk.cargo(0, 0, 0, 0, 0, 0);
        desk.settle(-1);
        Checks.dueCounts("twice played and fixed", desk, 2, 2, 1, 1, Checks.MILLION, 0, 0, 3, 1);
    }

    private static void fiveStates() {
        ShipFixtures desk = new ShipFixtures();
        for (int k = 0; k < 4; k++) {
            desk.ship(k + 1, 1, 1, 0, 0);
            Checks.due("states", desk.count(7), k + 1);
        }
        desk.ship(5, 1, 1, 0, 0);
        Checks.due("the oldest is dropped", desk.count(7), 4);
        desk.cargo(1, 0, 1, 0, 0, 1);
        Checks.due("and the next", desk.count(7), 4);
        Checks.due("undo() of the cargo", desk.undo(), 3);
        Checks.dueCounts("five ships", desk, 5, 0);
        for (int left = 2; left >= 0; left--) {
            Checks.due("undo() of ship " + (left + 2), desk.undo(), left);
            Checks.due("ships, " + left + " states left", desk.count(0), left + 2);
        }
        Checks.dueCounts("two ships are left", desk, 2, 0);
        Checks.due("the second", desk.shipOf(1, 0), 2);
        Checks.due("undo() of an empty history", desk.undo(), Checks.NOT);
        Checks.due("no change", desk.count(0), 2);
    }

    private static void undoRestoresAll() {
        ShipFixtures desk = new ShipFixtures();
        desk.ship(20, 10, 5, 0, 10);
        desk.cargo(20, 3, 1, 0, 12, 10);
        desk.fix(0, 0);
        desk.callOff(0);
        Checks.dueCounts("called off", desk, 1, 1, 1, 0, Checks.MILLION - 20, 0, 1, 4, 0);
        Checks.due("undo() of callOff", desk.undo(), 3);
        Checks.dueCounts("fixed again", desk, 1, 1, 0, 1, Checks.MILLION, 0, 0, 3, 0);
        Checks.dueShip("fixed again", desk, 0, 20, 10, 5, 1, 18, 0, 10, 1, Checks.MILLION, Checks.MILLION + 160);
        Checks.due("undo() of fix", desk.undo(), 2);
        Checks.dueShip("open again", desk, 0, 20, 10, 5, 0, 10, 0, 10, 0, Checks.MILLION, Checks.MILLION);
        Checks.dueCargo("open again", desk, 0, 20, 3, 1, 0, 12, 10, 0, Checks.NONE);
        Checks.due("undo() of cargo", desk.undo(), 1);
        Checks.due("no cargo", desk.cargoOf(0, 0), Checks.BAD);
        Checks.due("undo() of ship", desk.undo(), 0);
        Checks.due("no ship", desk.shipOf(0, 0), Checks.BAD);
        desk.port(3, 1, 2);
        Checks.due("undo() of port", desk.undo(), 0);
        Checks.due("where it was", desk.port(3, 1, 2), 3000);
    }

    private static void undoSettleAndDelay() {
        ShipFixtures desk = new ShipFixtures();
        desk.ship(20, 10, 5, 0, 10);
        desk.cargo(20, 3, 1, 0, 12, 10);
        desk.fix(0, 0);
        desk.settle(0);
        Checks.due("undo() of settle", desk.undo(), 3);
        Checks.dueShip("not settled", desk, 0, 20, 10, 5, 1, 18, 0, 10, 1, Checks.MILLION, Checks.MILLION + 160);
        Checks.due("delay(0, 1)", desk.delay(0, 1), 1);
        Checks.dueCounts("cancelled", desk, 1, 1, 0, 0, Checks.MILLION, 1, 0, 4, 0);
        Checks.due("undo() of delay", desk.undo(), 3);
        Checks.dueCounts("not cancelled", desk, 1, 1, 0, 1, Checks.MILLION, 0, 0, 3, 0);
        Checks.dueFixture("not cancelled", desk, 0, 0, 0, 12, 12, 18, Checks.MILLION + 160, 0);
    }

    private static void undoLeavesTheText() {
        ShipFixtures desk = new ShipFixtures();
        Checks.write(desk, "s1,1,1,1,1;");
        desk.play();
        desk.type('x');
        Checks.due("undo() of play", desk.undo(), 0);
        Checks.dueCounts("undone", desk, 0, 0, 0, 0, Checks.MILLION, 0, 0, 0, 12);
        Checks.dueFault("s1,1,1,1,1;x", desk, 11, 1, 0);
    }

    private static void undoThenGoOn() {
        ShipFixtures desk = new ShipFixtures();
        desk.ship(1, 1, 1, 0, 0);
        desk.ship(2, 1, 1, 0, 0);
        desk.undo();
        Checks.due("ship 1 again", desk.ship(3, 1, 1, 0, 0), 1);
        Checks.dueShip("the new one", desk, 1, 3, 1, 1, 0, 0, 0, 0, 0, Checks.MILLION, Checks.MILLION);
        Checks.due("undo()", desk.undo(), 1);
        Checks.due("undo()", desk.undo(), 0);
        Checks.due("no ship", desk.count(0), 0);
    }
}
