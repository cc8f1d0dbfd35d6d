/** What the empty and the full desk, history and text answer, and a desk at its 512th call. */
public final class EmptyAndFullTest {
    private static final int CALLS = 512;

    public static void main(String[] args) {
        emptyDeskChanges();
        emptyDeskQuestions();
        shipsWithoutCargoes();
        cargoesWithoutShips();
        fullDesk();
        fullDeskGoesOn();
        cargoesThatAreGoneStillCount();
        desksOfTheirOwn();
        longRunOfFixtures();
        longRunOfStates();
        longRunOfTexts();
        Checks.finish("EmptyAndFullTest");
    }

    private static void emptyDeskChanges() {
        ShipFixtures desk = new ShipFixtures();
        Checks.due("fix(0, 0)", desk.fix(0, 0), Checks.BAD);
        Checks.due("delay(0, 1)", desk.delay(0, 1), Checks.BAD);
        Checks.due("callOff(0)", desk.callOff(0), Checks.BAD);
        Checks.due("settle(0)", desk.settle(0), Checks.BAD);
        Checks.due("undo()", desk.undo(), Checks.NOT);
        Checks.due("clearText()", desk.clearText(), 0);
        Checks.due("port(7, 0, 0)", desk.port(7, 0, 0), 7005);
        Checks.due("play()", desk.play(), 0);
        Checks.due("undo()", desk.undo(), 1);
        Checks.due("undo()", desk.undo(), 0);
        Checks.due("undo()", desk.undo(), Checks.NOT);
    }

    private static void emptyDeskQuestions() {
        ShipFixtures desk = new ShipFixtures();
        for (int what = 0; what <= 9; what++) {
            Checks.due("shipOf(0, " + what + ")", desk.shipOf(0, what), Checks.BAD);
            Checks.due("cargoOf(0, " + what + ")", desk.cargoOf(0, what), Checks.BAD);
            Checks.due("fixtureOf(0, 0, " + what + ")", desk.fixtureOf(0, 0, what), Checks.BAD);
            Checks.due("voyage(0, 0, " + what + ")", desk.voyage(0, 0, what), Checks.BAD);
        }
        Checks.due("bestCargo(0)", desk.bestCargo(0), Checks.BAD);
        Checks.due("bestShip(0)", desk.bestShip(0), Checks.BAD);
        Checks.due("slack(0)", desk.slack(0), Checks.BAD);
        Checks.duePlan("empty", desk, 0, 0, 0, 0, Checks.BAD);
        Checks.dueCounts("empty", desk, 0, 0, 0, 0, Checks.MILLION, 0, 0, 0, 0, Checks.BAD);
        Checks.dueFault("(empty)", desk, Checks.NONE, Checks.NONE, Checks.NONE, Checks.BAD);
    }

    private static void shipsWithoutCargoes() {
        ShipFixtures desk = new ShipFixtures();
        for (int k = 0; k < 5; k++) {
            desk.ship(50, 20, 1, k, k);
        }
        for (int k = 0; k < 5; k++) {
            Checks.due("bestCargo", desk.bestCargo(k), Checks.NONE);
            Checks.due("slack", desk.slack(k), Checks.NONE);
            Checks.due("fixtureOf", desk.fixtureOf(k, 0, 0), Checks.NONE);
            Checks.due("fix", desk.fix(k, 0), Checks.BAD);
            Checks.due("voyage", desk.voyage(k, 0, 0), Checks.BAD);
            Checks.due("callOff", desk.callOff(k), Checks.NOT);
            Checks.due("settle", desk.settle(k), Checks.NOT);
        }
        Checks.due("bestShip(0)", desk.bestShip(0), Checks.BAD);
        Checks.duePlan("no cargo", desk, 0, 0, 0, 0);
    }

    private static void cargoesWithoutShips() {
        ShipFixtures desk = new ShipFixtures();
        for (int k = 0; k < 10; k++) {
            desk.cargo(50, 0, 1, 0, 99, 9);
        }
        for (int k = 0; k < 10; k++) {
            Checks.due("bestShip", desk.bestShip(k), Checks.NONE);
            Checks.due("fix", desk.fix(0, k), Checks.BAD);
            Checks.due("voyage", desk.voyage(0, k, 0), Checks.BAD);
            Checks.due("its ship", desk.cargoOf(k, 7), Checks.NONE);
        }
        Checks.due("bestCargo(0)", desk.bestCargo(0), Checks.BAD);
        Checks.duePlan("no ship", desk, 0, 0, 1023, 0);
        Checks.due("port(0, 1, 1)", desk.port(0, 1, 1), 0);
    }

    private static void fullDesk() {
        ShipFixtures desk = Desks.full();
        Checks.due("a sixth ship", desk.ship(1, 1, 1, 1, 1), Checks.LIMIT);
        Checks.due("an eleventh cargo", desk.cargo(1, 0, 1, 1, 1, 1), Checks.LIMIT);
        Checks.due("a 61st character", desk.type(';'), Checks.LIMIT);
        Checks.due("delay above 1999", desk.delay(0, 1), Checks.LIMIT);
        Checks.due("the fifth ship", desk.shipOf(4, 0), 24);
        Checks.due("the sixth ship", desk.shipOf(5, 0), Checks.BAD);
        Checks.due("the tenth cargo", desk.cargoOf(9, 0), 19);
        Checks.due("the eleventh cargo", desk.cargoOf(10, 0), Checks.BAD);
        Checks.due("its ship", desk.cargoOf(9, 7), 4);
        Checks.due("its fixture", desk.fixtureOf(4, 0, 0), 9);
        Checks.dueCounts("full", desk, 5, 10, 9, 1, Checks.MILLION, 0, 0, 4, 60);
    }

    /** Changes are possible on a full desk, with a full history and a full text. */
    private static void fullDeskGoesOn() {
        ShipFixtures desk = Desks.full();
        Checks.due("callOff(4)", desk.callOff(4), 37);
        Checks.due("states", desk.count(7), 4);
        Checks.due("port(0, 1, 2)", desk.port(0, 1, 2), 0);
        Checks.due("undo()", desk.undo(), 3);
        Checks.due("undo()", desk.undo(), 2);
        Checks.due("fixed again", desk.cargoOf(9, 6), 1);
        Checks.due("clearText()", desk.clearText(), 60);
        Checks.due("play()", desk.play(), 0);
        Checks.due("states", desk.count(7), 3);
    }

    private static void cargoesThatAreGoneStillCount() {
        ShipFixtures desk = new ShipFixtures();
        desk.ship(50, 20, 1, 0, 0);
        for (int k = 0; k < 10; k++) {
            desk.cargo(10, k % 2, 1 - k % 2, 0, 999, 9);
            Checks.holds("fix(0, " + k + ")", desk.fix(0, k) > 0);
        }
        Checks.holds("settle(0)", desk.settle(0) > 0);
        Checks.dueCounts("all gone", desk, 1, 10, 0, 0);
        Checks.due("an eleventh cargo", desk.cargo(10, 0, 1, 0, 999, 9), Checks.LIMIT);
        for (int k = 0; k < 10; k++) {
            Checks.due("cargo " + k + " is gone", desk.cargoOf(k, 6), 2);
            Checks.due("cargo " + k + " is told", desk.cargoOf(k, 0), 10);
            Checks.due("bestShip(" + k + ")", desk.bestShip(k), Checks.NOT);
        }
        Checks.due("bestCargo(0)", desk.bestCargo(0), Checks.NONE);
    }

    private static void desksOfTheirOwn() {
        ShipFixtures one = Desks.busy();
        ShipFixtures other = new ShipFixtures();
        Desks.full();
        Answers.due("another desk is new", Answers.of(other), Answers.of(new ShipFixtures()));
        Answers.alike("the first is as it was", one, Desks.busy());
    }

    /** 255 fixtures that are called off: 9 paid each time, and the account goes on below 0. */
    private static void longRunOfFixtures() {
        ShipFixtures desk = new ShipFixtures();
        int calls = 0;
        desk.ship(50, 20, 1, 0, 0);
        desk.cargo(10, 0, 1, 0, 99, 9);
        calls += 2;
        int off = 0;
        while (calls + 2 <= CALLS - 3) {
            Checks.due("fix(0, 0)", desk.fix(0, 0), 5);
            Checks.due("callOff(0)", desk.callOff(0), 9);
            off++;
            calls += 2;
        }
        Checks.due("called off", desk.count(6), off);
        Checks.due("account", desk.count(4), Checks.MILLION - 9 * off);
        Checks.due("states", desk.count(7), 4);
    }

    /** Changes and undos by turns: a full history drops and gives back states for as long as a desk is used. */
    private static void longRunOfStates() {
        ShipFixtures desk = new ShipFixtures();
        int calls = 0;
        int moved = 0;
        int from = 3000;
        while (calls + 3 <= CALLS) {
            int to = moved % 100;
            Checks.due("port(3, " + to + ", 1)", desk.port(3, to, 1), from);
            Checks.due("port(3, 0, 0)", desk.port(3, 0, 0), 100 * to + 1);
            moved++;
            Checks.due("undo()", desk.undo(), Math.min(moved, 3));
            from = 100 * to + 1;
            calls += 3;
        }
    }

    private static void longRunOfTexts() {
        ShipFixtures desk = new ShipFixtures();
        desk.ship(9, 9, 9, 0, 0);
        int calls = 1;
        int days = 0;
        while (calls + 8 <= CALLS - 2) {
            Checks.write(desk, "d0,1;");
            Checks.due("play()", desk.play(), 1);
            Checks.due("play()", desk.play(), 1);
            calls += 8;
            days += 2;
        }
        Checks.due("days", desk.shipOf(0, 6), days);
        Checks.due("states", desk.count(7), 4);
    }
}
