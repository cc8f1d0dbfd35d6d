/** Promises 9 (shipOf), 10 (cargoOf), 11 (fixtureOf), 13 (voyage), 14 (bestCargo) and 15 (bestShip). */
public final class QuestionsTest {
    public static void main(String[] args) {
        shipOf();
        cargoOf();
        fixtureOf();
        voyage();
        voyageHindrances();
        voyageFloats();
        bestCargo();
        bestCargoChoices();
        bestCargoOfItsOwn();
        bestShip();
        Checks.finish("QuestionsTest");
    }

    /** Ship 1 has settled a fixture, called one off and has two; its account is 160 - 8. */
    private static ShipFixtures busy() {
        ShipFixtures desk = new ShipFixtures();
        desk.ship(1, 1, 1, 1, 1);
        desk.ship(20, 10, 5, 0, 10);
        desk.cargo(20, 3, 1, 0, 12, 10);
        desk.cargo(15, 2, 7, 30, 31, 9);
        desk.cargo(8, 7, 6, 0, 99, 10);
        Checks.due("fix(1, 0)", desk.fix(1, 0), 18);
        Checks.due("settle(1)", desk.settle(1), Checks.MILLION + 160);
        Checks.due("fix(1, 1)", desk.fix(1, 1), 37);
        Checks.due("fix(1, 2)", desk.fix(1, 2), 42);
        Checks.due("callOff(1)", desk.callOff(1), 8);
        Checks.due("fix(1, 2)", desk.fix(1, 2), 42);
        return desk;
    }

    private static void shipOf() {
        ShipFixtures desk = busy();
        Checks.dueShip("busy", desk, 1, 20, 10, 5, 6, 42, 1, 18, 2, Checks.MILLION + 152, Checks.MILLION + 95,
                Checks.BAD, Checks.BAD);
        Checks.dueShip("idle", desk, 0, 1, 1, 1, 1, 1, 1, 1, 0, Checks.MILLION, Checks.MILLION, Checks.BAD);
        for (int wild : Checks.WILD) {
            Checks.due("shipOf(" + wild + ", 0)", desk.shipOf(wild, 0), Checks.BAD);
            Checks.due("shipOf(0, " + wild + ")", desk.shipOf(0, wild), Checks.BAD);
        }
        Checks.due("shipOf(2, 0)", desk.shipOf(2, 0), Checks.BAD);
    }

    private static void cargoOf() {
        ShipFixtures desk = busy();
        desk.cargo(3, 4, 5, 6, 7, 8);
        Checks.dueCargo("gone", desk, 0, 20, 3, 1, 0, 12, 10, 2, Checks.NONE, Checks.BAD);
        Checks.dueCargo("fixed", desk, 1, 15, 2, 7, 30, 31, 9, 1, 1, Checks.BAD);
        Checks.dueCargo("open", desk, 3, 3, 4, 5, 6, 7, 8, 0, Checks.NONE, Checks.BAD);
        for (int wild : Checks.WILD) {
            Checks.due("cargoOf(" + wild + ", 0)", desk.cargoOf(wild, 0), Checks.BAD);
            Checks.due("cargoOf(3, " + wild + ")", desk.cargoOf(3, wild), Checks.BAD);
        }
        Checks.due("cargoOf(4, 0)", desk.cargoOf(4, 0), Checks.BAD);
        Checks.due("INVALID_ARGUMENT goes first", desk.cargoOf(4, 7), Checks.BAD);
    }

    private static void fixtureOf() {
        ShipFixtures desk = busy();
        // from 1 on 18 to 2: on 19, waiting to 30, 550 by 240 a day are 3 days: 37
        Checks.dueFixture("first", desk, 1, 0, 1, 19, 30, 37, Checks.MILLION + 40, 12, Checks.BAD);
        Checks.dueFixture("second", desk, 1, 1, 2, 37, 37, 42, Checks.MILLION + 55, 62, Checks.BAD);
        for (int what = 0; what <= 5; what++) {
            Checks.due("no third, " + what, desk.fixtureOf(1, 2, what), Checks.NONE);
            Checks.due("none, " + what, desk.fixtureOf(0, 0, what), Checks.NONE);
            Checks.due("place 10, " + what, desk.fixtureOf(1, 10, what), Checks.NONE);
            Checks.due("the farthest place, " + what, desk.fixtureOf(1, Integer.MAX_VALUE, what), Checks.NONE);
            Checks.due("place -1, " + what, desk.fixtureOf(1, -1, what), Checks.BAD);
            Checks.due("the lowest place, " + what, desk.fixtureOf(1, Integer.MIN_VALUE, what), Checks.BAD);
        }
        for (int wild : Checks.WILD) {
            Checks.due("fixtureOf(" + wild + ", 0, 0)", desk.fixtureOf(wild, 0, 0), Checks.BAD);
            Checks.due("fixtureOf(1, 0, " + wild + ")", desk.fixtureOf(1, 0, wild), Checks.BAD);
        }
        Checks.due("fixtureOf(2, 0, 0)", desk.fixtureOf(2, 0, 0), Checks.BAD);
        Checks.due("INVALID_ARGUMENT goes first", desk.fixtureOf(1, 9, 6), Checks.BAD);
    }

    private static void voyage() {
        ShipFixtures desk = new ShipFixtures();
        desk.ship(50, 10, 20, 0, 5);
        desk.cargo(40, 1, 3, 8, 12, 90);
        desk.cargo(30, 3, 0, 20, 40, 50);
        Checks.dueVoyage("from its port", desk, 0, 0, 0, 8, 9, Checks.MILLION + 3420, 1136525312, Checks.BAD);
        Checks.dueVoyage("from its port", desk, 0, 1, 0, 20, 21, Checks.MILLION + 1080,
                Float.floatToIntBits(1080f / 21f), Checks.BAD);
        desk.fix(0, 0);
        // from 3 on 14: there at once, waiting to 20, 2 days of sailing
        Checks.dueVoyage("from where it is free", desk, 0, 1, 0, 20, 12, Checks.MILLION + 1260,
                Float.floatToIntBits(105f), Checks.BAD);
        // its own fixed cargo again, from 3 on 14: 250 are 2 days
        Checks.dueVoyage("a fixed cargo", desk, 0, 0, 2, 16, 8, Checks.MILLION + 3440,
                Float.floatToIntBits(430f), Checks.BAD);
        desk.settle(0);
        Checks.dueVoyage("a gone cargo", desk, 0, 0, 2, 16, 8, Checks.MILLION + 3440,
                Float.floatToIntBits(430f), Checks.BAD);
        for (int wild : Checks.WILD) {
            Checks.due("voyage(" + wild + ", 0, 0)", desk.voyage(wild, 0, 0), Checks.BAD);
            Checks.due("voyage(0, " + wild + ", 0)", desk.voyage(0, wild, 0), Checks.BAD);
            Checks.due("voyage(0, 0, " + wild + ")", desk.voyage(0, 0, wild), Checks.BAD);
        }
        Checks.due("voyage(1, 0, 0)", desk.voyage(1, 0, 0), Checks.BAD);
        Checks.due("voyage(0, 2, 0)", desk.voyage(0, 2, 0), Checks.BAD);
    }

    private static void voyageHindrances() {
        ShipFixtures desk = new ShipFixtures();
        desk.ship(20, 10, 5, 0, 10);
        desk.cargo(20, 3, 1, 0, 12, 10);
        desk.cargo(21, 3, 1, 0, 12, 10);
        desk.cargo(20, 3, 1, 0, 11, 10);
        desk.cargo(21, 3, 1, 0, 11, 10);
        Checks.due("just in size, just in time", desk.voyage(0, 0, 0), 0);
        Checks.due("too great", desk.voyage(0, 1, 0), 1);
        Checks.due("too late", desk.voyage(0, 2, 0), 2);
        Checks.due("too great and too late", desk.voyage(0, 3, 0), 1);
        Checks.dueVoyage("too late, all the same", desk, 0, 2, 2, 12, 8, Checks.MILLION + 160);
        Checks.dueVoyage("too great, all the same", desk, 0, 1, 1, 12, 8, Checks.MILLION + 170);
    }

    /** All that a voyage from 0 to 1 can earn by the day, with waiting from none to the most. */
    private static void voyageFloats() {
        for (int cost : new int[] {1, 2, 10, 33, 97, 99}) {
            for (int first : new int[] {0, 1, 2, 6, 95, 250, 777, 999}) {
                ShipFixtures desk = new ShipFixtures();
                desk.ship(99, 20, cost, 0, 0);
                for (int k = 0; k < 10; k++) {
                    int amount = 1 + 10 * k;
                    int freight = 1 + (k * 37 + first) % 99;
                    desk.cargo(amount, 0, 1, first, 999, freight);
                    int days = first + 5;
                    int earns = amount * freight - days * cost;
                    Checks.due("earns " + earns, desk.voyage(0, k, 3), Checks.MILLION + earns);
                    Checks.due(earns + " by " + days + " days", desk.voyage(0, k, 4),
                            Float.floatToIntBits((float) earns / (float) days));
                }
            }
        }
        ShipFixtures desk = new ShipFixtures();
        desk.ship(99, 20, 10, 0, 0);
        desk.cargo(5, 0, 1, 0, 9, 10);
        Checks.dueVoyage("earns nothing", desk, 0, 0, 0, 0, 5, Checks.MILLION, 0);
    }

    private static void bestCargo() {
        ShipFixtures desk = new ShipFixtures();
        Checks.due("no ship", desk.bestCargo(0), Checks.BAD);
        desk.ship(20, 20, 10, 0, 0);
        Checks.due("no cargo", desk.bestCargo(0), Checks.NONE);
        desk.cargo(21, 0, 1, 0, 9, 99);
        Checks.due("too great", desk.bestCargo(0), Checks.NONE);
        desk.cargo(9, 6, 1, 0, 0, 99);
        Checks.due("too late", desk.bestCargo(0), Checks.NONE);
        desk.cargo(1, 0, 1, 500, 999, 1);
        Checks.due("a loss is better than none", desk.bestCargo(0), 2);
        desk.cargo(1, 0, 1, 400, 999, 1);
        Checks.due("a smaller loss", desk.bestCargo(0), 3);
        desk.cargo(10, 0, 1, 0, 9, 9);
        desk.cargo(9, 0, 1, 0, 9, 10);
        Checks.due("the lowest of two", desk.bestCargo(0), 4);
        Checks.due("fix(0, 4)", desk.fix(0, 4), 5);
        Checks.due("the open one", desk.bestCargo(0), 5);
        for (int wild : Checks.WILD) {
            Checks.due("bestCargo(" + wild + ")", desk.bestCargo(wild), Checks.BAD);
        }
        Checks.due("bestCargo(1)", desk.bestCargo(1), Checks.BAD);
    }

    private static void bestCargoChoices() {
        ShipFixtures desk = new ShipFixtures();
        desk.ship(99, 20, 10, 0, 0);
        desk.ship(99, 20, 90, 7, 0);
        // most by the voyage, not by the day: 40 days for 1000 rather than 5 for 900
        desk.cargo(90, 0, 1, 0, 99, 10);
        desk.cargo(70, 0, 1, 35, 99, 20);
        Checks.due("most in all", desk.bestCargo(0), 1);
        Checks.due("its own costs", desk.bestCargo(1), 0);
        Checks.due("the ship that is no dearer", desk.bestShip(0), 0);
        Checks.due("the ship that is no dearer", desk.bestShip(1), 0);
        desk.ship(90, 20, 1, 0, 0);
        desk.ship(70, 20, 1, 0, 0);
        desk.cargo(91, 0, 1, 0, 99, 99);
        Checks.due("not what another ship could carry", desk.bestCargo(2), 1);
        Checks.due("not what another ship could carry", desk.bestCargo(3), 1);
        Checks.due("the great one", desk.bestCargo(1), 2);
        desk.fix(1, 1);
        desk.fix(0, 0);
        desk.fix(0, 2);
        Checks.due("all fixed", desk.bestCargo(0), Checks.NONE);
        desk.settle(0);
        desk.settle(1);
        Checks.due("all gone", desk.bestCargo(0), Checks.NONE);
    }

    /** Ship 0 is too small for cargo 0, which earns most and which ship 1 could carry. */
    private static void bestCargoOfItsOwn() {
        ShipFixtures desk = new ShipFixtures();
        desk.ship(10, 20, 1, 0, 0);
        desk.ship(99, 20, 1, 0, 0);
        desk.cargo(99, 0, 1, 0, 99, 99);
        desk.cargo(10, 0, 1, 0, 99, 10);
        Checks.due("the small one", desk.bestCargo(0), 1);
        Checks.due("the great one", desk.bestCargo(1), 0);
        Checks.due("of two alike, the first", desk.bestShip(1), 0);
        Checks.due("of one that can", desk.bestShip(0), 1);
    }

    private static void bestShip() {
        ShipFixtures desk = new ShipFixtures();
        Checks.due("no cargo", desk.bestShip(0), Checks.BAD);
        desk.cargo(20, 0, 1, 0, 5, 1);
        Checks.due("no ship", desk.bestShip(0), Checks.NONE);
        desk.ship(19, 20, 1, 0, 0);
        Checks.due("too small", desk.bestShip(0), Checks.NONE);
        desk.ship(20, 20, 1, 0, 6);
        Checks.due("too late", desk.bestShip(0), Checks.NONE);
        desk.ship(20, 20, 50, 0, 5);
        Checks.due("at a loss", desk.bestShip(0), 2);
        desk.ship(99, 20, 3, 0, 5);
        desk.ship(20, 20, 3, 0, 5);
        Checks.due("the lowest of two", desk.bestShip(0), 3);
        desk.delay(3, 1);
        Checks.due("when that is too late", desk.bestShip(0), 4);
        for (int wild : Checks.WILD) {
            Checks.due("bestShip(" + wild + ")", desk.bestShip(wild), Checks.BAD);
        }
        Checks.due("bestShip(1)", desk.bestShip(1), Checks.BAD);
        desk.fix(4, 0);
        Checks.due("fixed", desk.bestShip(0), Checks.NOT);
        desk.settle(4);
        Checks.due("gone", desk.bestShip(0), Checks.NOT);
    }
}
