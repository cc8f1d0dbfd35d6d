/** The sentences of the promises 14 (bestCargo), 15 (bestShip), 16 (plan) and 18 (count), at their edges. */
public final class PlanEdgesTest {
    public static void main(String[] args) {
        bestCargoOfEqualOnes();
        bestCargoByOne();
        bestCargoOnlyOpenOnes();
        bestShipOfEqualOnes();
        bestShipByOne();
        bestAtALoss();
        planEarnsMoreThan0();
        planLowestShipOfItsLowestCargo();
        planLowestShipAheadOfLowestCargo();
        planAgainAndAgain();
        planStopsAtALoss();
        planLeftOpen();
        planPairsOfPorts();
        planOfNothing();
        countsAtTheirEdges();
        Checks.finish("PlanEdgesTest");
    }

    /** A ship at port 0 and ports 0 and 1 at one place: each voyage there lasts 4 days, by 1 a day. */
    private static ShipFixtures deskWithShips(int count) {
        ShipFixtures desk = new ShipFixtures();
        desk.port(1, 0, 0);
        for (int k = 0; k < count; k++) {
            desk.ship(50, 20, 1, 0, 0);
        }
        return desk;
    }

    /** Of several the lowest: the first and the last number among ten, and any two that earn most. */
    private static void bestCargoOfEqualOnes() {
        for (int one = 0; one < 10; one++) {
            for (int other = 0; other < 10; other++) {
                ShipFixtures desk = deskWithShips(1);
                for (int k = 0; k < 10; k++) {
                    desk.cargo(10, 0, 1, 0, 99, k == one || k == other ? 9 : 8);
                }
                Checks.due("equal " + one + " and " + other, desk.bestCargo(0), Math.min(one, other));
            }
        }
    }

    private static void bestCargoByOne() {
        ShipFixtures desk = deskWithShips(1);
        desk.cargo(10, 0, 1, 0, 99, 9);
        desk.cargo(13, 0, 1, 0, 99, 7);
        Checks.due("91 is more than 90", desk.bestCargo(0), 1);
        desk.cargo(46, 0, 1, 1, 99, 2);
        Checks.due("92 with a day of waiting is no more than 91", desk.bestCargo(0), 1);
        desk.cargo(31, 0, 1, 1, 99, 3);
        Checks.due("93 with a day of waiting is", desk.bestCargo(0), 3);
    }

    private static void bestCargoOnlyOpenOnes() {
        ShipFixtures desk = deskWithShips(2);
        for (int k = 0; k < 10; k++) {
            desk.cargo(10, k % 2, 1 - k % 2, 0, 99, 20 - k);
        }
        for (int k = 0; k < 10; k++) {
            Checks.due("the best one open", desk.bestCargo(0), k);
            Checks.due("the best one open", desk.bestCargo(1), k);
            Checks.due("fix(0, " + k + ")", desk.fix(0, k), 4 * k + 4);
        }
        Checks.due("none is open", desk.bestCargo(1), Checks.NONE);
        desk.callOff(0);
        Checks.due("open again", desk.bestCargo(1), 9);
    }

    private static void bestShipOfEqualOnes() {
        for (int one = 0; one < 5; one++) {
            for (int other = 0; other < 5; other++) {
                ShipFixtures desk = deskWithShips(0);
                for (int k = 0; k < 5; k++) {
                    desk.ship(50, 20, k == one || k == other ? 1 : 2, 0, 0);
                }
                desk.cargo(10, 0, 1, 0, 99, 9);
                Checks.due("equal " + one + " and " + other, desk.bestShip(0), Math.min(one, other));
            }
        }
    }

    private static void bestShipByOne() {
        ShipFixtures desk = deskWithShips(0);
        desk.cargo(10, 0, 1, 9, 9, 9);
        desk.ship(10, 20, 1, 0, 0);
        Checks.due("13 days", desk.bestShip(0), 0);
        desk.ship(10, 20, 1, 0, 1);
        Checks.due("12 days", desk.bestShip(0), 1);
        desk.ship(10, 20, 3, 0, 9);
        Checks.due("4 days by 3 are no better", desk.bestShip(0), 1);
        desk.ship(9, 20, 1, 0, 9);
        Checks.due("4 days, and too small", desk.bestShip(0), 1);
        desk.ship(10, 20, 1, 0, 10);
        Checks.due("4 days, and too late", desk.bestShip(0), 1);
    }

    /** Only plans look for more than 0. */
    private static void bestAtALoss() {
        ShipFixtures desk = deskWithShips(1);
        desk.cargo(1, 0, 1, 999, 999, 1);
        Checks.due("voyage(0, 0, 3)", desk.voyage(0, 0, 3), Checks.MILLION + 1 - 1003);
        Checks.due("bestCargo(0)", desk.bestCargo(0), 0);
        Checks.due("bestShip(0)", desk.bestShip(0), 0);
        Checks.duePlan("at a loss", desk, 0, 0, 1, 0);
    }

    private static void planEarnsMoreThan0() {
        for (int freight = 1; freight <= 9; freight++) {
            ShipFixtures desk = deskWithShips(1);
            desk.cargo(1, 0, 1, 0, 99, freight);
            boolean more = freight > 4;
            Checks.duePlan("freight " + freight, desk, more ? 1 : 0, more ? freight - 4 : 0, more ? 0 : 1,
                    more ? 1 : 0);
        }
    }

    /**
     * Cargoes 0 and 1 earn the same with each ship. Only if ship 0 takes cargo 0, it is at port 2 on the day
     * on which cargo 2 must be loaded there, which is too great for ship 1.
     */
    private static void planLowestShipOfItsLowestCargo() {
        ShipFixtures desk = new ShipFixtures();
        desk.port(2, 24, 0);
        desk.port(3, 0, 24);
        desk.ship(50, 20, 1, 0, 0);
        desk.ship(10, 20, 1, 0, 0);
        desk.cargo(10, 0, 2, 0, 3, 9);
        desk.cargo(10, 0, 3, 0, 3, 9);
        desk.cargo(50, 2, 3, 5, 5, 1);
        Checks.duePlan("cargo 0 for ship 0", desk, 3, 85 + 85 + 45, 0, 3);
        ShipFixtures turned = new ShipFixtures();
        turned.port(2, 24, 0);
        turned.port(3, 0, 24);
        turned.ship(10, 20, 1, 0, 0);
        turned.ship(50, 20, 1, 0, 0);
        turned.cargo(10, 0, 2, 0, 3, 9);
        turned.cargo(10, 0, 3, 0, 3, 9);
        turned.cargo(50, 2, 3, 5, 5, 1);
        Checks.duePlan("cargo 1 for ship 1", turned, 2, 85 + 85, 4, 2);
    }

    /**
     * Ship 0 with cargo 1 and ship 1 with cargo 0 earn the same, and cargo 0 is too great for ship 0. If ship 1
     * were first, it would take cargo 1 too, and earn more with it by then: it need not wait any more.
     */
    private static void planLowestShipAheadOfLowestCargo() {
        ShipFixtures desk = new ShipFixtures();
        desk.port(1, 0, 0);
        desk.ship(39, 20, 1, 0, 0);
        desk.ship(50, 20, 1, 0, 0);
        desk.cargo(40, 0, 1, 0, 99, 1);
        desk.cargo(11, 1, 0, 4, 99, 4);
        Checks.due("ship 0, cargo 1", desk.voyage(0, 1, 3), Checks.MILLION + 36);
        Checks.due("ship 1, cargo 0", desk.voyage(1, 0, 3), Checks.MILLION + 36);
        Checks.duePlan("ship 0 is first", desk, 2, 36 + 36, 0, 2);
    }

    /** Behind each fixture all is looked at anew: a ship that is used goes on from where and when it is free. */
    private static void planAgainAndAgain() {
        ShipFixtures desk = deskWithShips(1);
        for (int k = 0; k < 10; k++) {
            desk.cargo(10, k % 2, 1 - k % 2, 0, 4 * k, 30 - k);
        }
        Checks.due("all ten, one behind another", desk.plan(0), 10);
        Checks.due("together", desk.plan(1), 10 * (30 + 21) / 2 * 10 - 40);
        desk.ship(50, 20, 1, 0, 0);
        Checks.due("two ships, as many", desk.plan(0), 10);
        desk.delay(0, 1);
        Checks.due("the second is in time", desk.plan(0), 10);
        desk.delay(1, 1);
        // for cargo 0 both are too late, then ship 0 loads cargo 1 on 1, cargo 2 is for ship 1 on 1, and so on
        Checks.due("too late for the first only", desk.plan(2), 1);
    }

    private static void planStopsAtALoss() {
        ShipFixtures desk = deskWithShips(1);
        desk.cargo(10, 0, 1, 0, 99, 9);
        desk.cargo(1, 1, 0, 0, 99, 4);
        desk.cargo(1, 1, 0, 0, 99, 5);
        // the second of the gains earns 1, then there is only one that earns 0
        Checks.duePlan("two gains", desk, 2, 86 + 1, 2, 2);
        desk.fix(0, 0);
        desk.fix(0, 2);
        Checks.duePlan("no gain", desk, 0, 0, 2, 0);
    }

    /** The set of the cargoes that are left open: each number alone, and all ten. */
    private static void planLeftOpen() {
        for (int left = 0; left < 10; left++) {
            ShipFixtures desk = deskWithShips(1);
            for (int k = 0; k < 10; k++) {
                desk.cargo(k == left ? 51 : 50, k % 2, 1 - k % 2, 0, 99, 9);
            }
            Checks.due("left open " + left, desk.plan(2), 1 << left);
            Checks.due("fixtures", desk.plan(0), 9);
        }
        ShipFixtures desk = deskWithShips(0);
        for (int k = 0; k < 10; k++) {
            desk.cargo(50, 0, 1, 0, 99, 9);
            Checks.due("no ship, all left open", desk.plan(2), (1 << (k + 1)) - 1);
        }
        desk.ship(50, 20, 1, 0, 0);
        desk.fix(0, 0);
        desk.fix(0, 9);
        desk.callOff(0);
        desk.settle(0);
        Checks.due("gone ones are not left open", desk.plan(2), 0);
        desk.delay(0, 99);
        Checks.due("too late for all", desk.plan(2), 1022);
    }

    /** Each pair of ports is another one, in both directions; equal ones count once. */
    private static void planPairsOfPorts() {
        for (int loads = 0; loads < 8; loads++) {
            for (int unloads = 0; unloads < 8; unloads++) {
                if (loads == unloads) {
                    continue;
                }
                ShipFixtures desk = new ShipFixtures();
                desk.ship(50, 20, 1, 0, 0);
                desk.cargo(50, loads, unloads, 0, 999, 99);
                Checks.due("one", desk.plan(3), 1);
                desk.cargo(50, loads, unloads, 0, 999, 99);
                Checks.due("the same", desk.plan(3), 1);
                desk.cargo(50, unloads, loads, 0, 999, 99);
                Checks.due("the other way", desk.plan(3), 2);
                desk.cargo(50, unloads, loads, 0, 999, 99);
                Checks.due("the other way again", desk.plan(3), 2);
            }
        }
        ShipFixtures desk = new ShipFixtures();
        desk.ship(50, 20, 1, 0, 0);
        int[][] ports = {{0, 1}, {1, 0}, {7, 6}, {6, 7}, {0, 7}, {7, 0}, {3, 4}, {4, 3}, {2, 5}, {5, 2}};
        for (int k = 0; k < 10; k++) {
            desk.cargo(50, ports[k][0], ports[k][1], 0, 999, 99);
            Checks.due("unlike ones", desk.plan(3), k + 1);
        }
    }

    private static void planOfNothing() {
        Checks.duePlan("no ship, no cargo", new ShipFixtures(), 0, 0, 0, 0);
        Checks.duePlan("no cargo", deskWithShips(5), 0, 0, 0, 0);
        ShipFixtures desk = deskWithShips(1);
        desk.cargo(50, 0, 1, 0, 99, 9);
        desk.fix(0, 0);
        Checks.duePlan("all fixed", desk, 0, 0, 0, 0);
        desk.settle(0);
        Checks.duePlan("all gone", desk, 0, 0, 0, 0);
    }

    private static void countsAtTheirEdges() {
        Checks.dueCounts("a new desk", new ShipFixtures(), 0, 0, 0, 0, Checks.MILLION, 0, 0, 0, 0);
        Checks.dueCounts("a busy desk", Desks.busy(), 3, 7, 3, 2, Checks.MILLION + 285, 1, 1, 4, 10);
        Checks.dueCounts("a full desk", Desks.full(), 5, 10, 9, 1, Checks.MILLION, 0, 0, 4, 60);
        ShipFixtures desk = deskWithShips(1);
        for (int k = 0; k < 10; k++) {
            desk.cargo(10, k % 2, 1 - k % 2, 0, 999, 9);
        }
        Checks.dueCounts("all open", desk, 1, 10, 10, 0);
        for (int k = 0; k < 10; k++) {
            desk.fix(0, k);
            Checks.dueCounts(k + 1 + " fixed", desk, 1, 10, 9 - k, k + 1);
        }
        desk.callOff(0);
        Checks.dueCounts("one called off", desk, 1, 10, 1, 9, Checks.MILLION - 9, 0, 1);
        desk.settle(0);
        Checks.dueCounts("nine gone", desk, 1, 10, 1, 0, Checks.MILLION - 9 + 9 * 86, 0, 1);
    }
}
