/** Promises 16 (plan) and 17 (slack). */
public final class PlansTest {
    public static void main(String[] args) {
        planRefuses();
        planOnlyGains();
        planIsGreedy();
        planTies();
        planTiesOfCargoes();
        planGoesOnFromFixtures();
        planPairs();
        planChangesNothing();
        planOfAll();
        slackOfOne();
        slackOfMore();
        slackEdges();
        Checks.finish("PlansTest");
    }

    private static void planRefuses() {
        ShipFixtures desk = new ShipFixtures();
        for (int wild : Checks.WILD) {
            Checks.due("plan(" + wild + ")", desk.plan(wild), Checks.BAD);
        }
        desk.cargo(1, 0, 1, 0, 9, 9);
        desk.cargo(1, 0, 1, 0, 9, 9);
        Checks.duePlan("no ship", desk, 0, 0, 3, 0, Checks.BAD);
    }

    private static void planOnlyGains() {
        ShipFixtures desk = new ShipFixtures();
        desk.ship(99, 20, 10, 0, 0);
        desk.cargo(5, 0, 1, 0, 9, 10);
        Checks.due("it could be fixed", desk.bestCargo(0), 0);
        Checks.duePlan("earns 0", desk, 0, 0, 1, 0);
        desk.cargo(51, 0, 1, 0, 9, 1);
        Checks.duePlan("earns 1", desk, 1, 1, 1, 1);
        desk.cargo(1, 0, 1, 0, 9, 1);
        Checks.duePlan("a loss", desk, 1, 1, 5, 1);
    }

    /** The dear cargo far away goes first, although behind it both near ones are too late. */
    private static void planIsGreedy() {
        ShipFixtures desk = new ShipFixtures();
        desk.ship(50, 20, 1, 0, 0);
        desk.cargo(10, 0, 1, 0, 0, 10);
        desk.cargo(10, 1, 0, 5, 9, 10);
        desk.cargo(11, 7, 0, 0, 99, 11);
        // 7 is 750 away, by 480 a day 2 days: 2, 4, 6, 8 days in all: 121 - 8 goes ahead of 100 - 5
        Checks.duePlan("greedy", desk, 2, 113 + 94, 1, 2);
        desk.cargo(51, 0, 1, 0, 99, 99);
        Checks.duePlan("too great", desk, 2, 207, 9, 2);
    }

    /** Both ships would earn the same with cargo 0; only if ship 0 takes it, cargo 1 remains for ship 1. */
    private static void planTies() {
        ShipFixtures desk = new ShipFixtures();
        desk.ship(50, 20, 1, 0, 0);
        desk.ship(90, 20, 1, 0, 0);
        desk.cargo(40, 0, 1, 0, 0, 99);
        desk.cargo(90, 0, 1, 0, 0, 20);
        Checks.duePlan("the lowest ship", desk, 2, 3955 + 1795, 0, 1);
        ShipFixtures other = new ShipFixtures();
        other.ship(90, 20, 1, 0, 0);
        other.ship(50, 20, 1, 0, 0);
        other.cargo(40, 0, 1, 0, 0, 99);
        other.cargo(90, 0, 1, 0, 0, 20);
        Checks.duePlan("the lowest ship, the great one", other, 1, 3955, 2, 1);
    }

    /** Of two equal cargoes the lowest is fixed, and it tells where the ship is free then. */
    private static void planTiesOfCargoes() {
        ShipFixtures desk = new ShipFixtures();
        desk.ship(50, 20, 1, 0, 0);
        desk.cargo(10, 0, 1, 0, 0, 10);
        desk.cargo(10, 0, 2, 0, 0, 10);
        desk.cargo(5, 1, 0, 5, 5, 3);
        Checks.duePlan("the lowest cargo", desk, 2, 95 + 10, 2, 2);
        // the lowest ship goes ahead of the lowest cargo: ship 0 takes cargo 3, ship 1 cargo 0
        desk.ship(50, 20, 1, 0, 0);
        Checks.duePlan("two ships", desk, 3, 95 + 95 + 10, 0, 3);
    }

    private static void planGoesOnFromFixtures() {
        ShipFixtures desk = new ShipFixtures();
        desk.ship(50, 20, 1, 0, 0);
        desk.cargo(10, 0, 1, 0, 0, 10);
        desk.cargo(10, 0, 2, 0, 0, 10);
        desk.cargo(10, 1, 0, 5, 5, 10);
        desk.fix(0, 0);
        Checks.duePlan("behind a fixture", desk, 1, 95, 2, 1);
        desk.delay(0, 1);
        // cargo 0 is cancelled and gone, for cargo 1 it is too late, cargo 2 waits from 2 to 5
        Checks.duePlan("gone ones are not open", desk, 1, 91, 2, 1);
    }

    private static void planPairs() {
        ShipFixtures desk = new ShipFixtures();
        desk.ship(50, 20, 1, 0, 0);
        desk.cargo(10, 6, 7, 0, 999, 90);
        Checks.due("one", desk.plan(3), 1);
        desk.cargo(10, 6, 7, 0, 999, 80);
        Checks.due("the same pair", desk.plan(3), 1);
        desk.cargo(10, 7, 6, 0, 999, 70);
        Checks.due("the other way", desk.plan(3), 2);
        desk.cargo(10, 6, 0, 0, 999, 60);
        Checks.due("another end", desk.plan(3), 3);
        desk.cargo(10, 0, 7, 0, 999, 50);
        Checks.due("another start", desk.plan(3), 4);
        desk.cargo(51, 2, 3, 0, 999, 99);
        Checks.due("of those that are left open none", desk.plan(3), 4);
        Checks.due("left open", desk.plan(2), 32);
        desk.port(7, 60, 0);
        Checks.due("ports at one place are two ports", desk.plan(3), 4);
        desk.fix(0, 0);
        Checks.due("of those that are fixed none", desk.plan(3), 4);
        desk.fix(0, 2);
        Checks.due("of those that are fixed none", desk.plan(3), 3);
    }

    private static void planChangesNothing() {
        ShipFixtures desk = new ShipFixtures();
        desk.ship(50, 20, 1, 0, 0);
        desk.cargo(10, 0, 1, 0, 0, 10);
        Checks.duePlan("once", desk, 1, 95, 0, 1);
        Checks.duePlan("again", desk, 1, 95, 0, 1);
        Checks.dueCounts("no change", desk, 1, 1, 1, 0, Checks.MILLION, 0, 0, 2, 0);
        Checks.dueShip("no change", desk, 0, 50, 20, 1, 0, 0, 0, 0, 0, Checks.MILLION, Checks.MILLION);
    }

    private static void planOfAll() {
        ShipFixtures desk = new ShipFixtures();
        for (int k = 0; k < 5; k++) {
            desk.ship(99, 20, 1, 0, 0);
        }
        for (int k = 0; k < 10; k++) {
            desk.cargo(99, k % 2, 1 - k % 2, 0, 999, 99);
        }
        // every voyage lasts 5 days, as at 0 and at 1 there is always one to load: all that are fixed earn 9796
        Checks.duePlan("five ships, ten cargoes", desk, 10, 10 * 9796, 0, 2);
        ShipFixtures one = new ShipFixtures();
        one.ship(99, 20, 1, 0, 0);
        for (int k = 0; k < 10; k++) {
            one.cargo(99, k % 2, 1 - k % 2, 0, 999, 99);
        }
        Checks.duePlan("one ship, ten cargoes", one, 10, 10 * 9796, 0, 2);
        for (int k = 0; k < 10; k++) {
            Checks.due("fix(0, " + k + ")", one.fix(0, k), 5 * (k + 1));
        }
        Checks.duePlan("all fixed", one, 0, 0, 0, 0);
        Checks.due("ten fixtures", one.shipOf(0, 7), 10);
        Checks.due("the tenth", one.fixtureOf(0, 9, 0), 9);
        Checks.due("no eleventh", one.fixtureOf(0, 10, 0), Checks.NONE);
        Checks.due("slack of ten", one.slack(0), 999 - 45);
        Checks.due("delay of ten", one.delay(0, 99), 0);
        Checks.due("slack of ten", one.slack(0), 900 - 45);
        Checks.due("ship of ten", one.shipOf(0, 4), 149);
        Checks.due("voyage behind ten", one.voyage(0, 1, 1), 150);
    }

    private static void slackOfOne() {
        ShipFixtures desk = new ShipFixtures();
        Checks.due("no ship", desk.slack(0), Checks.BAD);
        desk.ship(50, 20, 1, 0, 0);
        Checks.due("no fixture", desk.slack(0), Checks.NONE);
        desk.cargo(10, 0, 1, 3, 7, 10);
        desk.fix(0, 0);
        Checks.due("to the last day", desk.slack(0), 7);
        Checks.due("delay(0, 4)", desk.delay(0, 4), 0);
        Checks.due("delayed by 4", desk.slack(0), 3);
        Checks.due("delay(0, 3)", desk.delay(0, 3), 0);
        Checks.due("delayed by 7", desk.slack(0), 0);
        Checks.due("delay(0, 1)", desk.delay(0, 1), 1);
        Checks.due("cancelled", desk.slack(0), Checks.NONE);
        for (int wild : Checks.WILD) {
            Checks.due("slack(" + wild + ")", desk.slack(wild), Checks.BAD);
        }
        Checks.due("slack(1)", desk.slack(1), Checks.BAD);
    }

    private static void slackOfMore() {
        ShipFixtures desk = new ShipFixtures();
        desk.ship(99, 10, 1, 0, 0);
        desk.cargo(10, 1, 2, 5, 10, 9);
        desk.cargo(10, 2, 3, 0, 12, 9);
        desk.cargo(10, 3, 0, 18, 19, 9);
        desk.cargo(10, 0, 3, 0, 28, 9);
        desk.fix(0, 0);
        Checks.due("its own margin", desk.slack(0), 9);
        desk.fix(0, 1);
        Checks.due("waiting 4, then 2", desk.slack(0), 6);
        desk.fix(0, 2);
        Checks.due("waiting 4, then 4: the last one's own waiting is in its margin", desk.slack(0), 6);
        desk.fix(0, 3);
        // free at 0 on 24: 4 days ahead of the last one, and 4 and 3 of waiting ahead of that
        Checks.dueFixture("fourth", desk, 0, 3, 3, 24, 24, 30, Checks.MILLION + 84, 4);
        Checks.due("the second is the nearest", desk.slack(0), 6);
        Checks.due("delay by it", desk.delay(0, 6), 0);
        Checks.due("none is left", desk.slack(0), 0);
        Checks.due("delay by one more", desk.delay(0, 1), 3);
    }

    private static void slackEdges() {
        ShipFixtures desk = new ShipFixtures();
        desk.ship(99, 20, 1, 0, 0);
        desk.ship(99, 20, 1, 0, 999);
        desk.cargo(10, 0, 1, 999, 999, 9);
        desk.cargo(10, 0, 1, 999, 999, 9);
        desk.fix(0, 0);
        desk.fix(1, 1);
        Checks.due("the most", desk.slack(0), 999);
        Checks.due("the least", desk.slack(1), 0);
    }
}
