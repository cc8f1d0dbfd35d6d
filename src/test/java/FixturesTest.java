/** Promises 5 (fix), 6 (delay), 7 (callOff) and 8 (settle). */
public final class FixturesTest {
    public static void main(String[] args) {
        fixes();
        fixEdges();
        fixRefuses();
        sailingDays();
        delayWithoutFixtures();
        delayLimit();
        delaySwallowedByWaiting();
        delayCancels();
        delayCancelsAll();
        delayRefuses();
        callsOff();
        callOffPrices();
        callOffRefuses();
        settles();
        settlesAtALoss();
        settleRefuses();
        Checks.finish("FixturesTest");
    }

    private static void fixes() {
        ShipFixtures desk = new ShipFixtures();
        desk.ship(20, 10, 5, 0, 10);
        desk.cargo(20, 3, 1, 0, 12, 10);
        desk.cargo(15, 2, 7, 30, 31, 9);
        // 300 by 240 a day: 2 days, so there on 12; then 250 by 240 a day: 2 days
        Checks.due("fix(0, 0)", desk.fix(0, 0), 18);
        Checks.dueShip("once fixed", desk, 0, 20, 10, 5, 1, 18, 0, 10, 1, Checks.MILLION, Checks.MILLION + 160);
        Checks.dueCargo("once fixed", desk, 0, 20, 3, 1, 0, 12, 10, 1, 0);
        Checks.dueFixture("once fixed", desk, 0, 0, 0, 12, 12, 18, Checks.MILLION + 160, 0);
        // from 1 on 18: 150, a day; waiting to 30; 550 are 3 days
        Checks.due("fix(0, 1)", desk.fix(0, 1), 37);
        Checks.dueFixture("twice fixed", desk, 0, 1, 1, 19, 30, 37, Checks.MILLION + 40, 12);
        Checks.dueShip("twice fixed", desk, 0, 20, 10, 5, 7, 37, 0, 10, 2, Checks.MILLION, Checks.MILLION + 200);
        Checks.dueCounts("twice fixed", desk, 1, 2, 0, 2, Checks.MILLION, 0, 0, 4, 0);
    }

    private static void fixEdges() {
        ShipFixtures desk = new ShipFixtures();
        desk.ship(20, 10, 5, 0, 10);
        desk.cargo(21, 3, 1, 0, 99, 10);
        desk.cargo(20, 3, 1, 0, 11, 10);
        desk.cargo(20, 3, 1, 0, 12, 10);
        Checks.due("too great by one", desk.fix(0, 0), Checks.NOT);
        Checks.due("too late by one", desk.fix(0, 1), Checks.NOT);
        Checks.dueCargo("not fixed", desk, 1, 20, 3, 1, 0, 11, 10, 0, Checks.NONE);
        Checks.dueCounts("not fixed", desk, 1, 3, 3, 0, Checks.MILLION, 0, 0, 4, 0);
        Checks.due("on the last day", desk.fix(0, 2), 18);
        Checks.due("a fixed cargo", desk.fix(0, 2), Checks.NOT);
        desk.ship(99, 20, 1, 3, 0);
        Checks.due("a cargo of another ship", desk.fix(1, 2), Checks.NOT);
        desk.settle(0);
        Checks.due("a cargo that is gone", desk.fix(1, 2), Checks.NOT);
        Checks.due("another ship", desk.fix(1, 1), 5);
        Checks.due("its ship", desk.cargoOf(1, 7), 1);
    }

    private static void fixRefuses() {
        ShipFixtures desk = new ShipFixtures();
        Checks.due("no ship", desk.fix(0, 0), Checks.BAD);
        desk.ship(20, 10, 5, 0, 10);
        Checks.due("no cargo", desk.fix(0, 0), Checks.BAD);
        desk.cargo(20, 3, 1, 0, 12, 10);
        for (int wild : Checks.WILD) {
            Checks.due("fix(" + wild + ", 0)", desk.fix(wild, 0), Checks.BAD);
            Checks.due("fix(0, " + wild + ")", desk.fix(0, wild), Checks.BAD);
        }
        Checks.due("fix(1, 0)", desk.fix(1, 0), Checks.BAD);
        Checks.due("fix(0, 1)", desk.fix(0, 1), Checks.BAD);
        desk.fix(0, 0);
        Checks.due("INVALID_ARGUMENT goes first", desk.fix(1, 0), Checks.BAD);
    }

    private static void sailingDays() {
        ShipFixtures desk = new ShipFixtures();
        desk.port(1, 24, 0);
        desk.port(2, 49, 0);
        desk.port(3, 24, 0);
        desk.ship(9, 10, 1, 0, 0);
        desk.cargo(9, 1, 2, 0, 99, 9);
        desk.cargo(9, 3, 1, 0, 99, 9);
        // 240 by 240 a day is just a day, 250 is more
        Checks.dueVoyage("24 and 25 apart", desk, 0, 0, 0, 1, 7, Checks.MILLION + 74);
        // ports at one place: no day at sea
        Checks.dueVoyage("0 apart", desk, 0, 1, 0, 1, 5, Checks.MILLION + 76);
        Checks.due("fix(0, 1)", desk.fix(0, 1), 5);
        Checks.dueVoyage("from the port of loading", desk, 0, 0, 0, 5, 6, Checks.MILLION + 75);
    }

    private static void delayWithoutFixtures() {
        ShipFixtures desk = new ShipFixtures();
        desk.ship(9, 9, 9, 4, 7);
        desk.ship(9, 9, 9, 5, 7);
        Checks.due("delay(0, 1)", desk.delay(0, 1), 0);
        Checks.due("delay(0, 99)", desk.delay(0, 99), 0);
        Checks.dueShip("delayed", desk, 0, 9, 9, 9, 4, 107, 4, 107, 0, Checks.MILLION, Checks.MILLION);
        Checks.dueShip("the other", desk, 1, 9, 9, 9, 5, 7, 5, 7, 0, Checks.MILLION, Checks.MILLION);
        Checks.dueCounts("delayed", desk, 2, 0, 0, 0, Checks.MILLION, 0, 0, 4, 0);
    }

    private static void delayLimit() {
        ShipFixtures desk = new ShipFixtures();
        desk.ship(9, 9, 9, 4, 999);
        for (int k = 0; k < 10; k++) {
            desk.delay(0, 99);
        }
        Checks.due("at 1989", desk.shipOf(0, 6), 1989);
        Checks.due("to 2000", desk.delay(0, 11), Checks.LIMIT);
        Checks.due("still at 1989", desk.shipOf(0, 6), 1989);
        Checks.due("to 1999", desk.delay(0, 10), 0);
        Checks.due("at 1999", desk.shipOf(0, 4), 1999);
        Checks.due("one more", desk.delay(0, 1), Checks.LIMIT);
        Checks.due("INVALID_ARGUMENT goes first", desk.delay(0, 100), Checks.BAD);
        Checks.due("INVALID_ARGUMENT goes first, ship", desk.delay(1, 99), Checks.BAD);
    }

    /** Three fixtures: one waits 4 days, the next may come 2 days later, the last one nearly ever. */
    private static ShipFixtures threeFixtures() {
        ShipFixtures desk = new ShipFixtures();
        desk.ship(99, 10, 1, 0, 0);
        desk.cargo(10, 1, 2, 5, 10, 9);
        desk.cargo(10, 2, 3, 0, 12, 9);
        desk.cargo(10, 3, 0, 0, 99, 9);
        Checks.due("fix(0, 0)", desk.fix(0, 0), 10);
        Checks.due("fix(0, 1)", desk.fix(0, 1), 15);
        Checks.due("fix(0, 2)", desk.fix(0, 2), 21);
        Checks.dueFixture("first", desk, 0, 0, 0, 1, 5, 10, Checks.MILLION + 80, 9);
        Checks.dueFixture("second", desk, 0, 1, 1, 10, 10, 15, Checks.MILLION + 85, 2);
        Checks.dueFixture("third", desk, 0, 2, 2, 15, 15, 21, Checks.MILLION + 84, 84);
        return desk;
    }

    private static void delaySwallowedByWaiting() {
        ShipFixtures desk = threeFixtures();
        Checks.due("delay(0, 3)", desk.delay(0, 3), 0);
        Checks.dueFixture("delayed", desk, 0, 0, 0, 4, 5, 10, Checks.MILLION + 83, 6);
        Checks.dueFixture("delayed", desk, 0, 1, 1, 10, 10, 15, Checks.MILLION + 85, 2);
        Checks.dueShip("delayed", desk, 0, 99, 10, 1, 0, 21, 0, 3, 3, Checks.MILLION, Checks.MILLION + 252);
        Checks.due("delay(0, 3)", desk.delay(0, 3), 0);
        Checks.dueFixture("at its slack", desk, 0, 1, 1, 12, 12, 17, Checks.MILLION + 85, 0);
        Checks.dueFixture("at its slack", desk, 0, 2, 2, 17, 17, 23, Checks.MILLION + 84, 82);
        Checks.due("count(5)", desk.count(5), 0);
    }

    private static void delayCancels() {
        ShipFixtures desk = threeFixtures();
        Checks.due("delay(0, 7)", desk.delay(0, 7), 2);
        Checks.dueShip("cancelled", desk, 0, 99, 10, 1, 2, 13, 0, 7, 1, Checks.MILLION, Checks.MILLION + 84);
        Checks.dueFixture("ahead of them", desk, 0, 0, 0, 8, 8, 13, Checks.MILLION + 84, 2);
        Checks.dueFixture("no second", desk, 0, 1, Checks.NONE, Checks.NONE);
        Checks.due("ahead of them", desk.cargoOf(0, 6), 1);
        Checks.due("too late", desk.cargoOf(1, 6), 2);
        Checks.due("behind it", desk.cargoOf(2, 6), 2);
        Checks.due("no ship of a gone one", desk.cargoOf(2, 7), Checks.NONE);
        Checks.dueCounts("cancelled", desk, 1, 3, 0, 1, Checks.MILLION, 2, 0, 4, 0);
        Checks.due("delay(0, 3)", desk.delay(0, 3), 1);
        Checks.due("count(5) adds up", desk.count(5), 3);
        Checks.dueShip("all cancelled", desk, 0, 99, 10, 1, 0, 10, 0, 10, 0, Checks.MILLION, Checks.MILLION);
    }

    private static void delayCancelsAll() {
        ShipFixtures desk = threeFixtures();
        Checks.due("delay(0, 10)", desk.delay(0, 10), 3);
        Checks.dueShip("at its first port", desk, 0, 99, 10, 1, 0, 10, 0, 10, 0, Checks.MILLION, Checks.MILLION);
        Checks.dueCounts("all gone", desk, 1, 3, 0, 0, Checks.MILLION, 3, 0, 4, 0);
        Checks.due("gone for good", desk.fix(0, 2), Checks.NOT);
    }

    private static void delayRefuses() {
        ShipFixtures desk = threeFixtures();
        for (int wild : Checks.WILD) {
            Checks.due("delay(" + wild + ", 1)", desk.delay(wild, 1), Checks.BAD);
            Checks.due("delay(0, " + wild + ")", desk.delay(0, wild), Checks.BAD);
        }
        Checks.due("delay(1, 1)", desk.delay(1, 1), Checks.BAD);
        Checks.due("delay(0, 0)", desk.delay(0, 0), Checks.BAD);
        Checks.due("delay(0, 100)", desk.delay(0, 100), Checks.BAD);
        Checks.due("not delayed", desk.shipOf(0, 6), 0);
    }

    private static void callsOff() {
        ShipFixtures desk = threeFixtures();
        Checks.due("callOff(0)", desk.callOff(0), 9);
        Checks.dueShip("called off", desk, 0, 99, 10, 1, 3, 15, 0, 0, 2, Checks.MILLION - 9, Checks.MILLION + 165);
        Checks.dueCargo("open again", desk, 2, 10, 3, 0, 0, 99, 9, 0, Checks.NONE);
        Checks.dueCounts("called off", desk, 1, 3, 1, 2, Checks.MILLION - 9, 0, 1, 4, 0);
        Checks.due("fix(0, 2) again", desk.fix(0, 2), 21);
        desk.callOff(0);
        desk.callOff(0);
        Checks.due("callOff(0) of the first", desk.callOff(0), 9);
        Checks.dueShip("all called off", desk, 0, 99, 10, 1, 0, 0, 0, 0, 0, Checks.MILLION - 36, Checks.MILLION);
        Checks.dueCounts("all called off", desk, 1, 3, 3, 0, Checks.MILLION - 36, 0, 4, 4, 0);
    }

    private static void callOffPrices() {
        int[][] prices = {{1, 1, 1}, {1, 10, 1}, {1, 11, 2}, {5, 4, 2}, {3, 7, 3}, {99, 99, 981}, {5, 99, 50}};
        ShipFixtures desk = new ShipFixtures();
        desk.ship(99, 10, 1, 0, 0);
        int paid = 0;
        for (int k = 0; k < prices.length; k++) {
            desk.cargo(prices[k][0], 1, 2, 0, 999, prices[k][1]);
            desk.fix(0, k);
            Checks.due("a tenth of " + prices[k][0] + " * " + prices[k][1], desk.callOff(0), prices[k][2]);
            paid += prices[k][2];
            Checks.due("account", desk.shipOf(0, 8), Checks.MILLION - paid);
        }
    }

    private static void callOffRefuses() {
        ShipFixtures desk = new ShipFixtures();
        Checks.due("no ship", desk.callOff(0), Checks.BAD);
        desk.ship(9, 9, 9, 0, 0);
        desk.cargo(9, 1, 2, 0, 99, 9);
        Checks.due("no fixture", desk.callOff(0), Checks.NOT);
        for (int wild : Checks.WILD) {
            Checks.due("callOff(" + wild + ")", desk.callOff(wild), Checks.BAD);
        }
        Checks.due("callOff(1)", desk.callOff(1), Checks.BAD);
        desk.fix(0, 0);
        desk.settle(0);
        Checks.due("settled", desk.callOff(0), Checks.NOT);
        Checks.due("count(6)", desk.count(6), 0);
    }

    private static void settles() {
        ShipFixtures desk = threeFixtures();
        desk.callOff(0);
        Checks.due("settle(0)", desk.settle(0), Checks.MILLION + 165);
        Checks.dueShip("settled", desk, 0, 99, 10, 1, 3, 15, 3, 15, 0, Checks.MILLION + 156, Checks.MILLION);
        Checks.due("gone", desk.cargoOf(0, 6), 2);
        Checks.due("gone", desk.cargoOf(1, 6), 2);
        Checks.due("left open", desk.cargoOf(2, 6), 0);
        Checks.dueFixture("gone", desk, 0, 0, Checks.NONE);
        Checks.dueCounts("settled", desk, 1, 3, 1, 0, Checks.MILLION + 156, 0, 1, 4, 0);
        Checks.due("fix(0, 2)", desk.fix(0, 2), 21);
        Checks.due("settle(0) again", desk.settle(0), Checks.MILLION + 84);
        Checks.dueShip("settled again", desk, 0, 99, 10, 1, 0, 21, 0, 21, 0, Checks.MILLION + 240, Checks.MILLION);
    }

    private static void settlesAtALoss() {
        ShipFixtures desk = new ShipFixtures();
        desk.ship(1, 20, 99, 0, 0);
        desk.ship(9, 20, 1, 0, 0);
        desk.cargo(1, 0, 1, 999, 999, 1);
        desk.cargo(9, 0, 1, 0, 999, 9);
        // 999 days of waiting and 5 more, by 99 a day, less 1
        Checks.due("fix(0, 0)", desk.fix(0, 0), 1004);
        Checks.due("settle(0)", desk.settle(0), Checks.MILLION - 99395);
        Checks.due("its account", desk.shipOf(0, 8), Checks.MILLION - 99395);
        Checks.due("its first day", desk.shipOf(0, 6), 1004);
        desk.fix(1, 1);
        Checks.due("settle(1)", desk.settle(1), Checks.MILLION + 76);
        Checks.due("of all ships", desk.count(4), Checks.MILLION - 99319);
    }

    private static void settleRefuses() {
        ShipFixtures desk = new ShipFixtures();
        Checks.due("no ship", desk.settle(0), Checks.BAD);
        desk.ship(9, 9, 9, 0, 0);
        Checks.due("no fixture", desk.settle(0), Checks.NOT);
        for (int wild : Checks.WILD) {
            Checks.due("settle(" + wild + ")", desk.settle(wild), Checks.BAD);
        }
        Checks.due("settle(1)", desk.settle(1), Checks.BAD);
        Checks.due("no change", desk.count(7), 1);
    }
}
