/**
 * Promise by promise, every error that a call can return, and where several apply the one that comes first:
 * INVALID_ARGUMENT, then NOT_POSSIBLE, then LIMIT_REACHED, then NOT_FOUND.
 */
public final class ErrorsTest {
    public static void main(String[] args) {
        portErrors();
        shipErrors();
        cargoErrors();
        fixErrors();
        delayErrors();
        callOffErrors();
        settleErrors();
        shipOfErrors();
        cargoOfErrors();
        fixtureOfErrors();
        distanceErrors();
        voyageErrors();
        bestCargoErrors();
        bestShipErrors();
        planErrors();
        slackErrors();
        countErrors();
        undoErrors();
        typeErrors();
        faultErrors();
        playErrors();
        Checks.finish("ErrorsTest");
    }

    private static void bad(String call, int answer) {
        Checks.due(call, answer, Checks.BAD);
    }

    private static void not(String call, int answer) {
        Checks.due(call, answer, Checks.NOT);
    }

    private static void limit(String call, int answer) {
        Checks.due(call, answer, Checks.LIMIT);
    }

    private static void none(String call, int answer) {
        Checks.due(call, answer, Checks.NONE);
    }

    private static void portErrors() {
        ShipFixtures desk = Desks.busy();
        not("port while a cargo is fixed", desk.port(0, 0, 0));
        not("port 7, of no use to any fixture or not", desk.port(7, 99, 99));
        bad("no such port, and a cargo is fixed", desk.port(8, 0, 0));
        bad("no such port, and a cargo is fixed", desk.port(-1, 0, 0));
        bad("x too small, and a cargo is fixed", desk.port(0, -1, 0));
        bad("x too large, and a cargo is fixed", desk.port(0, 100, 0));
        bad("y too small, and a cargo is fixed", desk.port(0, 0, -1));
        bad("y too large, and a cargo is fixed", desk.port(0, 0, 100));
        bad("all of them", desk.port(Integer.MIN_VALUE, Integer.MAX_VALUE, Integer.MIN_VALUE));
    }

    private static void shipErrors() {
        ShipFixtures desk = Desks.full();
        limit("a sixth ship of the least", desk.ship(1, 1, 1, 0, 0));
        limit("a sixth ship of the most", desk.ship(99, 20, 99, 7, 999));
        bad("size, and there are 5", desk.ship(0, 1, 1, 0, 0));
        bad("size, and there are 5", desk.ship(100, 1, 1, 0, 0));
        bad("speed, and there are 5", desk.ship(1, 0, 1, 0, 0));
        bad("speed, and there are 5", desk.ship(1, 21, 1, 0, 0));
        bad("cost, and there are 5", desk.ship(1, 1, 0, 0, 0));
        bad("cost, and there are 5", desk.ship(1, 1, 100, 0, 0));
        bad("port, and there are 5", desk.ship(1, 1, 1, -1, 0));
        bad("port, and there are 5", desk.ship(1, 1, 1, 8, 0));
        bad("day, and there are 5", desk.ship(1, 1, 1, 0, -1));
        bad("day, and there are 5", desk.ship(1, 1, 1, 0, 1000));
        Checks.due("still 5", desk.count(0), 5);
    }

    private static void cargoErrors() {
        ShipFixtures desk = Desks.full();
        limit("an eleventh cargo of the least", desk.cargo(1, 0, 1, 0, 0, 1));
        limit("an eleventh cargo of the most", desk.cargo(99, 7, 6, 999, 999, 99));
        bad("amount, and there are 10", desk.cargo(0, 0, 1, 0, 0, 1));
        bad("amount, and there are 10", desk.cargo(100, 0, 1, 0, 0, 1));
        bad("loads, and there are 10", desk.cargo(1, -1, 1, 0, 0, 1));
        bad("loads, and there are 10", desk.cargo(1, 8, 1, 0, 0, 1));
        bad("unloads, and there are 10", desk.cargo(1, 0, -1, 0, 0, 1));
        bad("unloads, and there are 10", desk.cargo(1, 0, 8, 0, 0, 1));
        bad("the same ports, and there are 10", desk.cargo(1, 3, 3, 0, 0, 1));
        bad("first, and there are 10", desk.cargo(1, 0, 1, -1, 0, 1));
        bad("first, and there are 10", desk.cargo(1, 0, 1, 1000, 1000, 1));
        bad("last ahead of first, and there are 10", desk.cargo(1, 0, 1, 1, 0, 1));
        bad("last, and there are 10", desk.cargo(1, 0, 1, 0, 1000, 1));
        bad("freight, and there are 10", desk.cargo(1, 0, 1, 0, 0, 0));
        bad("freight, and there are 10", desk.cargo(1, 0, 1, 0, 0, 100));
        Checks.due("still 10", desk.count(1), 10);
    }

    private static void fixErrors() {
        ShipFixtures desk = Desks.busy();
        not("a cargo that it has", desk.fix(Desks.FIXED_SHIP, Desks.FIXED_CARGO));
        not("a cargo that another ship has", desk.fix(Desks.DONE_SHIP, Desks.FIXED_CARGO));
        not("a cargo that is gone by settle", desk.fix(Desks.DONE_SHIP, Desks.SETTLED_CARGO));
        not("a cargo that is gone by a delay", desk.fix(Desks.IDLE_SHIP, Desks.CANCELLED_CARGO));
        not("too great", desk.fix(Desks.IDLE_SHIP, Desks.TOO_GREAT_CARGO));
        not("too late", desk.fix(Desks.IDLE_SHIP, Desks.TOO_LATE_CARGO));
        bad("no such ship, and the cargo is fixed", desk.fix(3, Desks.FIXED_CARGO));
        bad("no such ship, and the cargo is fixed", desk.fix(-1, Desks.FIXED_CARGO));
        bad("no such ship, and the cargo is gone", desk.fix(3, Desks.SETTLED_CARGO));
        bad("no such cargo", desk.fix(Desks.IDLE_SHIP, 7));
        bad("no such cargo", desk.fix(Desks.IDLE_SHIP, -1));
        bad("neither", desk.fix(3, 7));
        Checks.due("the one that can be fixed", desk.fix(Desks.DONE_SHIP, Desks.OPEN_CARGO), 55);
    }

    private static void delayErrors() {
        ShipFixtures desk = Desks.full();
        limit("from 1999 by the least", desk.delay(0, 1));
        limit("from 1999 by the most", desk.delay(0, 99));
        bad("days too few, and it would be above 1999", desk.delay(0, 0));
        bad("days below 0, and it would be above 1999", desk.delay(0, -1));
        bad("days too many, and it would be above 1999", desk.delay(0, 100));
        bad("so many that it would be below 0", desk.delay(0, Integer.MAX_VALUE));
        bad("no such ship", desk.delay(5, 1));
        bad("no such ship", desk.delay(-1, 1));
        bad("neither", desk.delay(5, 100));
        Checks.due("not delayed", desk.shipOf(0, 6), 1999);
        Checks.due("another ship", desk.delay(1, 99), 0);
    }

    private static void callOffErrors() {
        ShipFixtures desk = Desks.busy();
        not("no fixture, it was cancelled", desk.callOff(Desks.IDLE_SHIP));
        not("no fixture, they were settled and called off", desk.callOff(Desks.DONE_SHIP));
        bad("no such ship", desk.callOff(3));
        bad("no such ship", desk.callOff(-1));
        // a tenth of 135, rounded up, and of 200
        Checks.due("the last fixture", desk.callOff(Desks.FIXED_SHIP), 14);
        Checks.due("the first fixture", desk.callOff(Desks.FIXED_SHIP), 20);
        not("no fixture any more", desk.callOff(Desks.FIXED_SHIP));
    }

    private static void settleErrors() {
        ShipFixtures desk = Desks.busy();
        not("no fixture, it was cancelled", desk.settle(Desks.IDLE_SHIP));
        not("no fixture, they were settled and called off", desk.settle(Desks.DONE_SHIP));
        bad("no such ship", desk.settle(3));
        bad("no such ship", desk.settle(-1));
        Checks.due("two fixtures", desk.settle(Desks.FIXED_SHIP), Checks.MILLION + 160 + 20);
        not("no fixture any more", desk.settle(Desks.FIXED_SHIP));
    }

    private static void shipOfErrors() {
        ShipFixtures desk = Desks.busy();
        bad("no such ship", desk.shipOf(3, 0));
        bad("no such ship", desk.shipOf(-1, 9));
        bad("no such what", desk.shipOf(2, 10));
        bad("no such what", desk.shipOf(2, -1));
        bad("neither", desk.shipOf(3, 10));
    }

    private static void cargoOfErrors() {
        ShipFixtures desk = Desks.busy();
        none("its ship, of an open one", desk.cargoOf(Desks.OPEN_CARGO, 7));
        none("its ship, of one never fixed", desk.cargoOf(Desks.TOO_LATE_CARGO, 7));
        none("its ship, of a settled one", desk.cargoOf(Desks.SETTLED_CARGO, 7));
        none("its ship, of a cancelled one", desk.cargoOf(Desks.CANCELLED_CARGO, 7));
        Checks.due("its ship, of a fixed one", desk.cargoOf(Desks.FIXED_CARGO, 7), Desks.FIXED_SHIP);
        bad("its ship, of one that there is not", desk.cargoOf(7, 7));
        bad("its ship, of one that there is not", desk.cargoOf(-1, 7));
        bad("no such what, of an open one", desk.cargoOf(Desks.OPEN_CARGO, 8));
        bad("no such what, of an open one", desk.cargoOf(Desks.OPEN_CARGO, -1));
    }

    private static void fixtureOfErrors() {
        ShipFixtures desk = Desks.busy();
        none("a third one", desk.fixtureOf(Desks.FIXED_SHIP, 2, 0));
        none("the first one of a ship without", desk.fixtureOf(Desks.IDLE_SHIP, 0, 5));
        none("the farthest", desk.fixtureOf(Desks.FIXED_SHIP, Integer.MAX_VALUE, 5));
        bad("no such ship, and there are not so many", desk.fixtureOf(3, 2, 0));
        bad("no such ship, and there are not so many", desk.fixtureOf(-1, Integer.MAX_VALUE, 0));
        bad("no such what, and there are not so many", desk.fixtureOf(Desks.FIXED_SHIP, 2, 6));
        bad("no such what, and there are not so many", desk.fixtureOf(Desks.IDLE_SHIP, 0, -1));
        bad("a negative place", desk.fixtureOf(Desks.FIXED_SHIP, -1, 0));
        bad("a negative place of a ship without", desk.fixtureOf(Desks.IDLE_SHIP, -1, 0));
        bad("no such what", desk.fixtureOf(Desks.FIXED_SHIP, 1, 6));
        bad("all of them", desk.fixtureOf(3, -1, 6));
    }

    private static void distanceErrors() {
        ShipFixtures desk = new ShipFixtures();
        bad("distance(8, 0)", desk.distance(8, 0));
        bad("distance(0, 8)", desk.distance(0, 8));
        bad("distance(-1, 7)", desk.distance(-1, 7));
        bad("distance(7, -1)", desk.distance(7, -1));
        bad("distance(8, 8)", desk.distance(8, 8));
    }

    private static void voyageErrors() {
        ShipFixtures desk = Desks.busy();
        bad("no such ship", desk.voyage(3, 0, 0));
        bad("no such ship", desk.voyage(-1, 0, 4));
        bad("no such cargo", desk.voyage(0, 7, 0));
        bad("no such cargo", desk.voyage(0, -1, 4));
        bad("no such what", desk.voyage(0, 0, 5));
        bad("no such what", desk.voyage(0, 0, -1));
        bad("no such what, of a voyage that is not possible",
                desk.voyage(Desks.IDLE_SHIP, Desks.TOO_GREAT_CARGO, 5));
        bad("all of them", desk.voyage(3, 7, 5));
    }

    private static void bestCargoErrors() {
        ShipFixtures desk = Desks.busy();
        none("all open ones too great or too late", desk.bestCargo(Desks.IDLE_SHIP));
        bad("no such ship", desk.bestCargo(3));
        bad("no such ship", desk.bestCargo(-1));
        bad("no ship and no cargo", new ShipFixtures().bestCargo(0));
    }

    private static void bestShipErrors() {
        ShipFixtures desk = Desks.busy();
        none("too late for all ships", desk.bestShip(Desks.TOO_LATE_CARGO));
        // cargo 0 would be too late for all ships, and the gone ones too
        not("fixed, and no ship could take it", desk.bestShip(Desks.FIXED_CARGO));
        not("settled, and no ship could take it", desk.bestShip(Desks.SETTLED_CARGO));
        not("cancelled, and no ship could take it", desk.bestShip(Desks.CANCELLED_CARGO));
        not("fixed, and another ship could take it", desk.bestShip(1));
        Checks.due("it could", desk.voyage(Desks.DONE_SHIP, 1, 0), 0);
        bad("no such cargo", desk.bestShip(7));
        bad("no such cargo", desk.bestShip(-1));
        bad("no ship and no cargo", new ShipFixtures().bestShip(0));
    }

    private static void planErrors() {
        bad("plan(4)", new ShipFixtures().plan(4));
        bad("plan(-1)", new ShipFixtures().plan(-1));
        bad("plan(4) of a busy desk", Desks.busy().plan(4));
        bad("plan(-1) of a busy desk", Desks.busy().plan(-1));
    }

    private static void slackErrors() {
        ShipFixtures desk = Desks.busy();
        none("no fixture, it was cancelled", desk.slack(Desks.IDLE_SHIP));
        none("no fixture, they were settled and called off", desk.slack(Desks.DONE_SHIP));
        bad("no such ship", desk.slack(3));
        bad("no such ship", desk.slack(-1));
        bad("no ship at all", new ShipFixtures().slack(0));
    }

    private static void countErrors() {
        ShipFixtures desk = Desks.busy();
        bad("count(9)", desk.count(9));
        bad("count(-1)", desk.count(-1));
    }

    private static void undoErrors() {
        ShipFixtures desk = new ShipFixtures();
        not("undo() of a new desk", desk.undo());
        desk.ship(1, 1, 1, 1, 1);
        Checks.due("undo() of one change", desk.undo(), 0);
        not("undo() once more", desk.undo());
        not("undo() behind an error", desk.undo());
    }

    private static void typeErrors() {
        ShipFixtures desk = Desks.full();
        limit("the least of the 61st", desk.type(32));
        limit("the most of the 61st", desk.type(126));
        bad("31, and there are 60", desk.type(31));
        bad("127, and there are 60", desk.type(127));
        bad("the least, and there are 60", desk.type(Integer.MIN_VALUE));
        bad("the greatest, and there are 60", desk.type(Integer.MAX_VALUE));
    }

    private static void faultErrors() {
        ShipFixtures desk = new ShipFixtures();
        for (String text : new String[] {"", "s1,1,1,1,1;"}) {
            Checks.write(desk, text);
            none("position, no fault in '" + text + "'", desk.fault(0));
            none("reason, no fault in '" + text + "'", desk.fault(1));
            none("cause, no fault in '" + text + "'", desk.fault(2));
            bad("no such what, and no fault in '" + text + "'", desk.fault(3));
            bad("no such what, and no fault in '" + text + "'", desk.fault(-1));
        }
        Checks.write(desk, "x");
        bad("no such what, and a fault", desk.fault(3));
        bad("no such what, and a fault", desk.fault(-1));
    }

    private static void playErrors() {
        ShipFixtures desk = new ShipFixtures();
        Checks.write(desk, "x");
        not("a fault of form", desk.play());
        Checks.write(desk, "d0,1;");
        not("a fault of INVALID_ARGUMENT", desk.play());
        ShipFixtures full = Desks.full();
        not("a fault of LIMIT_REACHED", full.play());
        Checks.write(full, "f0,0;");
        not("a fault of NOT_POSSIBLE", full.play());
    }
}
