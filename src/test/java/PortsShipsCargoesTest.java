/** Promises 1 (a new object), 2 (port), 3 (ship), 4 (cargo) and 12 (distance). */
public final class PortsShipsCargoesTest {
    public static void main(String[] args) {
        newObject();
        portMoves();
        portRefuses();
        portWhileFixed();
        shipComes();
        shipRefuses();
        shipLimit();
        cargoComes();
        cargoRefuses();
        cargoLimit();
        distances();
        Checks.finish("PortsShipsCargoesTest");
    }

    private static void newObject() {
        ShipFixtures desk = new ShipFixtures();
        Checks.dueCounts("new", desk, 0, 0, 0, 0, Checks.MILLION, 0, 0, 0, 0, Checks.BAD);
        Checks.duePlan("new", desk, 0, 0, 0, 0, Checks.BAD);
        Checks.due("undo()", desk.undo(), Checks.NOT);
        Checks.dueFault("(none)", desk, Checks.NONE, Checks.NONE, Checks.NONE, Checks.BAD);
        Checks.due("clearText()", desk.clearText(), 0);
        for (int k = 0; k < 8; k++) {
            Checks.due("port " + k + " at first", desk.port(k, 0, 0), 100 * 10 * k + 5 * (k % 3));
        }
        ShipFixtures other = new ShipFixtures();
        Checks.due("another desk has its own ports", other.port(7, 1, 1), 7005);
        Checks.due("another desk has its own history", other.count(7), 1);
    }

    private static void portMoves() {
        ShipFixtures desk = new ShipFixtures();
        Checks.due("port(7, 99, 98)", desk.port(7, 99, 98), 7005);
        Checks.due("port(7, 0, 0)", desk.port(7, 0, 0), 9998);
        Checks.due("port(7, 0, 99)", desk.port(7, 0, 99), 0);
        Checks.due("port(0, 3, 4)", desk.port(0, 3, 4), 0);
        Checks.due("count(7)", desk.count(7), 4);
        Checks.due("port(0, 3, 4) to where it is", desk.port(0, 3, 4), 304);
        Checks.due("distance(0, 7)", desk.distance(0, 7), 980);
        Checks.due("port 1 is where it was", desk.port(1, 10, 5), 1005);
    }

    private static void portRefuses() {
        ShipFixtures desk = new ShipFixtures();
        for (int wild : Checks.WILD) {
            Checks.due("port(" + wild + ", 1, 1)", desk.port(wild, 1, 1), Checks.BAD);
            Checks.due("port(1, " + wild + ", 1)", desk.port(1, wild, 1), Checks.BAD);
            Checks.due("port(1, 1, " + wild + ")", desk.port(1, 1, wild), Checks.BAD);
        }
        Checks.due("port(8, 1, 1)", desk.port(8, 1, 1), Checks.BAD);
        Checks.due("port(1, 100, 1)", desk.port(1, 100, 1), Checks.BAD);
        Checks.due("port(1, 1, 100)", desk.port(1, 1, 100), Checks.BAD);
        Checks.due("no state kept", desk.count(7), 0);
        Checks.due("port(1, 1, 1)", desk.port(1, 1, 1), 1005);
    }

    private static void portWhileFixed() {
        ShipFixtures desk = new ShipFixtures();
        desk.ship(9, 9, 9, 0, 0);
        desk.cargo(9, 1, 2, 0, 99, 9);
        desk.cargo(9, 1, 2, 0, 99, 9);
        Checks.due("port while cargoes are open", desk.port(5, 1, 1), 5010);
        desk.fix(0, 1);
        Checks.due("port while one is fixed", desk.port(5, 2, 2), Checks.NOT);
        Checks.due("INVALID_ARGUMENT goes first", desk.port(8, 2, 2), Checks.BAD);
        Checks.due("INVALID_ARGUMENT goes first, x", desk.port(5, 100, 2), Checks.BAD);
        desk.callOff(0);
        Checks.due("port when it is open again", desk.port(5, 2, 2), 101);
        desk.fix(0, 1);
        desk.settle(0);
        Checks.due("port when it is gone", desk.port(5, 3, 3), 202);
    }

    private static void shipComes() {
        ShipFixtures desk = new ShipFixtures();
        Checks.due("ship of the least", desk.ship(1, 1, 1, 0, 0), 0);
        Checks.due("ship of the most", desk.ship(99, 20, 99, 7, 999), 1);
        Checks.due("ship(30, 12, 45, 6, 78)", desk.ship(30, 12, 45, 6, 78), 2);
        Checks.dueShip("least", desk, 0, 1, 1, 1, 0, 0, 0, 0, 0, Checks.MILLION, Checks.MILLION);
        Checks.dueShip("most", desk, 1, 99, 20, 99, 7, 999, 7, 999, 0, Checks.MILLION, Checks.MILLION);
        Checks.dueShip("third", desk, 2, 30, 12, 45, 6, 78, 6, 78, 0, Checks.MILLION, Checks.MILLION);
        Checks.dueCounts("three ships", desk, 3, 0, 0, 0, Checks.MILLION, 0, 0, 3, 0);
    }

    private static void shipRefuses() {
        ShipFixtures desk = new ShipFixtures();
        for (int wild : Checks.WILD) {
            Checks.due("size " + wild, desk.ship(wild, 2, 2, 2, 2), Checks.BAD);
            Checks.due("speed " + wild, desk.ship(2, wild, 2, 2, 2), Checks.BAD);
            Checks.due("cost " + wild, desk.ship(2, 2, wild, 2, 2), Checks.BAD);
            Checks.due("port " + wild, desk.ship(2, 2, 2, wild, 2), Checks.BAD);
            Checks.due("day " + wild, desk.ship(2, 2, 2, 2, wild), Checks.BAD);
        }
        Checks.due("size 0", desk.ship(0, 2, 2, 2, 2), Checks.BAD);
        Checks.due("size 100", desk.ship(100, 2, 2, 2, 2), Checks.BAD);
        Checks.due("speed 0", desk.ship(2, 0, 2, 2, 2), Checks.BAD);
        Checks.due("speed 21", desk.ship(2, 21, 2, 2, 2), Checks.BAD);
        Checks.due("cost 0", desk.ship(2, 2, 0, 2, 2), Checks.BAD);
        Checks.due("cost 100", desk.ship(2, 2, 100, 2, 2), Checks.BAD);
        Checks.due("port 8", desk.ship(2, 2, 2, 8, 2), Checks.BAD);
        Checks.due("day 1000", desk.ship(2, 2, 2, 2, 1000), Checks.BAD);
        Checks.dueCounts("refused", desk, 0, 0, 0, 0, Checks.MILLION, 0, 0, 0, 0);
    }

    private static void shipLimit() {
        ShipFixtures desk = new ShipFixtures();
        for (int k = 0; k < 5; k++) {
            Checks.due("ship " + k, desk.ship(k + 1, 2, 2, k, k), k);
        }
        Checks.due("a sixth ship", desk.ship(2, 2, 2, 2, 2), Checks.LIMIT);
        Checks.due("INVALID_ARGUMENT goes first", desk.ship(0, 2, 2, 2, 2), Checks.BAD);
        Checks.dueCounts("five ships", desk, 5, 0, 0, 0, Checks.MILLION, 0, 0, 4, 0);
        Checks.dueShip("the last", desk, 4, 5, 2, 2, 4, 4);
        Checks.due("no ship 5", desk.shipOf(5, 0), Checks.BAD);
    }

    private static void cargoComes() {
        ShipFixtures desk = new ShipFixtures();
        Checks.due("cargo of the least", desk.cargo(1, 0, 1, 0, 0, 1), 0);
        Checks.due("cargo of the most", desk.cargo(99, 7, 0, 999, 999, 99), 1);
        Checks.due("cargo(12, 3, 7, 45, 678, 90)", desk.cargo(12, 3, 7, 45, 678, 90), 2);
        Checks.dueCargo("least", desk, 0, 1, 0, 1, 0, 0, 1, 0, Checks.NONE, Checks.BAD);
        Checks.dueCargo("most", desk, 1, 99, 7, 0, 999, 999, 99, 0, Checks.NONE, Checks.BAD);
        Checks.dueCargo("third", desk, 2, 12, 3, 7, 45, 678, 90, 0, Checks.NONE, Checks.BAD);
        Checks.dueCounts("three cargoes", desk, 0, 3, 3, 0, Checks.MILLION, 0, 0, 3, 0);
    }

    private static void cargoRefuses() {
        ShipFixtures desk = new ShipFixtures();
        for (int wild : Checks.WILD) {
            Checks.due("amount " + wild, desk.cargo(wild, 2, 3, 4, 5, 6), Checks.BAD);
            Checks.due("loads " + wild, desk.cargo(2, wild, 3, 4, 5, 6), Checks.BAD);
            Checks.due("unloads " + wild, desk.cargo(2, 2, wild, 4, 5, 6), Checks.BAD);
            Checks.due("first " + wild, desk.cargo(2, 2, 3, wild, 5, 6), Checks.BAD);
            Checks.due("last " + wild, desk.cargo(2, 2, 3, 4, wild, 6), Checks.BAD);
            Checks.due("freight " + wild, desk.cargo(2, 2, 3, 4, 5, wild), Checks.BAD);
        }
        Checks.due("amount 0", desk.cargo(0, 2, 3, 4, 5, 6), Checks.BAD);
        Checks.due("amount 100", desk.cargo(100, 2, 3, 4, 5, 6), Checks.BAD);
        Checks.due("loads 8", desk.cargo(2, 8, 3, 4, 5, 6), Checks.BAD);
        Checks.due("unloads 8", desk.cargo(2, 2, 8, 4, 5, 6), Checks.BAD);
        Checks.due("both ports the same", desk.cargo(2, 3, 3, 4, 5, 6), Checks.BAD);
        Checks.due("last ahead of first", desk.cargo(2, 2, 3, 4, 3, 6), Checks.BAD);
        Checks.due("first 1000", desk.cargo(2, 2, 3, 1000, 1000, 6), Checks.BAD);
        Checks.due("last 1000", desk.cargo(2, 2, 3, 4, 1000, 6), Checks.BAD);
        Checks.due("first -1, last 5", desk.cargo(2, 2, 3, -1, 5, 6), Checks.BAD);
        Checks.due("freight 0", desk.cargo(2, 2, 3, 4, 5, 0), Checks.BAD);
        Checks.due("freight 100", desk.cargo(2, 2, 3, 4, 5, 100), Checks.BAD);
        Checks.dueCounts("refused", desk, 0, 0, 0, 0, Checks.MILLION, 0, 0, 0, 0);
    }

    private static void cargoLimit() {
        ShipFixtures desk = new ShipFixtures();
        desk.ship(9, 9, 9, 0, 0);
        for (int k = 0; k < 10; k++) {
            Checks.due("cargo " + k, desk.cargo(k % 9 + 1, 2, 3, k, 99, 6), k);
        }
        Checks.due("an eleventh cargo", desk.cargo(2, 2, 3, 4, 5, 6), Checks.LIMIT);
        Checks.due("INVALID_ARGUMENT goes first", desk.cargo(2, 2, 2, 4, 5, 6), Checks.BAD);
        desk.fix(0, 9);
        desk.settle(0);
        Checks.due("gone ones count too", desk.cargo(2, 2, 3, 4, 5, 6), Checks.LIMIT);
        Checks.dueCounts("ten cargoes, one gone", desk, 1, 10, 9, 0);
        Checks.due("no cargo 10", desk.cargoOf(10, 0), Checks.BAD);
    }

    private static void distances() {
        ShipFixtures desk = new ShipFixtures();
        int[] x = {0, 10, 20, 30, 40, 50, 60, 70};
        int[] y = {0, 5, 10, 0, 5, 10, 0, 5};
        for (int one = 0; one < 8; one++) {
            for (int other = 0; other < 8; other++) {
                Checks.due("distance(" + one + ", " + other + ")", desk.distance(one, other),
                        10 * (Math.abs(x[one] - x[other]) + Math.abs(y[one] - y[other])));
            }
        }
        desk.port(3, 99, 0);
        desk.port(4, 0, 99);
        desk.port(5, 99, 0);
        Checks.due("the farthest", desk.distance(3, 4), 1980);
        Checks.due("the farthest, back", desk.distance(4, 3), 1980);
        Checks.due("two ports at one place", desk.distance(3, 5), 0);
        for (int wild : Checks.WILD) {
            Checks.due("distance(" + wild + ", 0)", desk.distance(wild, 0), Checks.BAD);
            Checks.due("distance(0, " + wild + ")", desk.distance(0, wild), Checks.BAD);
        }
        Checks.due("distance(8, 0)", desk.distance(8, 0), Checks.BAD);
        Checks.due("distance(0, 8)", desk.distance(0, 8), Checks.BAD);
        Checks.due("a question is no change", desk.count(7), 3);
    }
}
