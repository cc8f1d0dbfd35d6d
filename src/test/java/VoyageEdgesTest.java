/** The sentences of 'Ports', 'Ships' and 'Voyages', at their edges. */
public final class VoyageEdgesTest {
    public static void main(String[] args) {
        portsAtFirst();
        distanceOfAnyTwo();
        sailingIsRoundedUp();
        waitsIfAheadOfTheFirstDay();
        tooLateIfBehindTheLastDay();
        lateOnAOneDaySpan();
        amountAtMostTheSize();
        tooGreatGoesAheadOfTooLate();
        twoDaysEachOfLoadingAndDischarging();
        voyageBeginsWhereTheShipIsFree();
        earnsTheMost();
        earnsTheLeast();
        floatsOfTheDay();
        fixedOrGoneMakesNoDifference();
        Checks.finish("VoyageEdgesTest");
    }

    /** At first the port k is at x = 10 * k and y = 5 * (k modulo 3). */
    private static void portsAtFirst() {
        int[] x = {0, 10, 20, 30, 40, 50, 60, 70};
        int[] y = {0, 5, 10, 0, 5, 10, 0, 5};
        for (int port = 0; port < 8; port++) {
            Checks.due("port " + port, new ShipFixtures().port(port, 99, 99), 100 * x[port] + y[port]);
        }
    }

    /** The differences are without signs, whichever port is asked first. */
    private static void distanceOfAnyTwo() {
        int[][] places = {{0, 0}, {99, 99}, {0, 99}, {99, 0}, {50, 49}, {50, 50}, {1, 98}, {0, 1}};
        ShipFixtures desk = new ShipFixtures();
        for (int k = 0; k < 8; k++) {
            desk.port(k, places[k][0], places[k][1]);
        }
        for (int one = 0; one < 8; one++) {
            for (int other = 0; other < 8; other++) {
                int across = Math.abs(places[one][0] - places[other][0]) + Math.abs(places[one][1] - places[other][1]);
                Checks.due("distance(" + one + ", " + other + ")", desk.distance(one, other), 10 * across);
            }
        }
        Checks.due("corner to corner", desk.distance(0, 1), 1980);
        Checks.due("the other corners", desk.distance(3, 2), 1980);
        Checks.due("to itself", desk.distance(1, 1), 0);
        Checks.due("one apart", desk.distance(4, 5), 10);
        Checks.due("one apart, back", desk.distance(7, 0), 10);
    }

    /** The distance divided by 24 times the speed, rounded up: all speeds and all distances that two ports can have. */
    private static void sailingIsRoundedUp() {
        for (int speed = 1; speed <= 20; speed++) {
            for (int away = 0; away <= 198; away++) {
                ShipFixtures desk = new ShipFixtures();
                desk.port(1, Math.min(away, 99), Math.max(0, away - 99));
                desk.ship(1, speed, 1, 0, 0);
                desk.cargo(1, 1, 0, 0, 999, 1);
                int days = 0;
                while (days * 24 * speed < 10 * away) {
                    days++;
                }
                String what = 10 * away + " at the speed of " + speed;
                Checks.due(what + ", to the port of loading", desk.voyage(0, 0, 1), days);
                Checks.due(what + ", to that of discharge too", desk.voyage(0, 0, 2), 2 * days + 4);
                Checks.due(what + ", fixed", desk.fix(0, 0), 2 * days + 4);
            }
        }
    }

    /** The ship is at port 3 on day 12: ahead of the first day by 1, just on it, and behind it by 1. */
    private static void waitsIfAheadOfTheFirstDay() {
        for (int first = 0; first <= 20; first++) {
            ShipFixtures desk = new ShipFixtures();
            desk.ship(20, 10, 5, 0, 10);
            desk.cargo(20, 3, 1, first, 999, 10);
            int begins = first > 12 ? first : 12;
            Checks.dueVoyage("first day " + first, desk, 0, 0, 0, begins, begins + 6 - 10,
                    Checks.MILLION + 200 - 5 * (begins - 4));
            Checks.due("first day " + first + ": fix(0, 0)", desk.fix(0, 0), begins + 6);
            Checks.dueFixture("first day " + first, desk, 0, 0, 0, 12, begins, begins + 6,
                    Checks.MILLION + 200 - 5 * (begins - 4), 999 - 12);
        }
    }

    private static void tooLateIfBehindTheLastDay() {
        for (int last = 0; last <= 20; last++) {
            ShipFixtures desk = new ShipFixtures();
            desk.ship(20, 10, 5, 0, 10);
            desk.cargo(20, 3, 1, 0, last, 10);
            boolean late = last < 12;
            Checks.dueVoyage("last day " + last, desk, 0, 0, late ? 2 : 0, 12, 8, Checks.MILLION + 160);
            Checks.due("bestCargo, last day " + last, desk.bestCargo(0), late ? Checks.NONE : 0);
            Checks.due("bestShip, last day " + last, desk.bestShip(0), late ? Checks.NONE : 0);
            Checks.due("plan, last day " + last, desk.plan(0), late ? 0 : 1);
            Checks.due("fix, last day " + last, desk.fix(0, 0), late ? Checks.NOT : 18);
            Checks.due("state, last day " + last, desk.cargoOf(0, 6), late ? 0 : 1);
            Checks.due("margin, last day " + last, desk.fixtureOf(0, 0, 5), late ? Checks.NONE : last - 12);
        }
    }

    /** The first day is the last one too: ahead of it the ship waits, on it it loads, behind it it is too late. */
    private static void lateOnAOneDaySpan() {
        for (int day = 9; day <= 11; day++) {
            ShipFixtures desk = new ShipFixtures();
            desk.ship(20, 10, 5, 0, day);
            desk.cargo(20, 3, 1, 12, 12, 10);
            Checks.due("free on " + day, desk.voyage(0, 0, 0), day > 10 ? 2 : 0);
            Checks.due("free on " + day, desk.voyage(0, 0, 1), day > 10 ? 13 : 12);
            Checks.due("free on " + day, desk.fix(0, 0), day > 10 ? Checks.NOT : 18);
        }
        ShipFixtures desk = new ShipFixtures();
        desk.ship(1, 1, 1, 0, 999);
        desk.cargo(1, 0, 1, 999, 999, 1);
        desk.cargo(1, 0, 1, 0, 998, 1);
        Checks.due("on the latest of all days", desk.voyage(0, 0, 0), 0);
        Checks.due("a day behind the last", desk.voyage(0, 1, 0), 2);
        desk.ship(1, 1, 1, 0, 0);
        desk.cargo(1, 0, 1, 0, 0, 1);
        Checks.due("on the first of all days", desk.voyage(1, 2, 0), 0);
    }

    private static void amountAtMostTheSize() {
        for (int size = 1; size <= 99; size++) {
            for (int amount = Math.max(1, size - 1); amount <= Math.min(99, size + 1); amount++) {
                ShipFixtures desk = new ShipFixtures();
                desk.ship(size, 20, 1, 0, 0);
                desk.cargo(amount, 0, 1, 0, 0, 99);
                boolean great = amount > size;
                String what = "amount " + amount + ", size " + size;
                Checks.due(what + ": voyage", desk.voyage(0, 0, 0), great ? 1 : 0);
                Checks.due(what + ": bestCargo", desk.bestCargo(0), great ? Checks.NONE : 0);
                Checks.due(what + ": bestShip", desk.bestShip(0), great ? Checks.NONE : 0);
                Checks.due(what + ": plan", desk.plan(0), great ? 0 : 1);
                Checks.due(what + ": fix", desk.fix(0, 0), great ? Checks.NOT : 5);
            }
        }
    }

    /** 1 if the cargo is too great, otherwise 2 if it would be too late. */
    private static void tooGreatGoesAheadOfTooLate() {
        for (int amount = 19; amount <= 21; amount++) {
            for (int last = 11; last <= 13; last++) {
                ShipFixtures desk = new ShipFixtures();
                desk.ship(20, 10, 5, 0, 10);
                desk.cargo(amount, 3, 1, 0, last, 10);
                int due = amount > 20 ? 1 : last < 12 ? 2 : 0;
                Checks.due("amount " + amount + ", last day " + last, desk.voyage(0, 0, 0), due);
                Checks.due("amount " + amount + ", last day " + last, desk.fix(0, 0), due > 0 ? Checks.NOT : 18);
            }
        }
    }

    /** Without any way to sail a voyage lasts 4 days. */
    private static void twoDaysEachOfLoadingAndDischarging() {
        ShipFixtures desk = new ShipFixtures();
        desk.port(1, 0, 0);
        desk.ship(10, 1, 7, 0, 30);
        desk.cargo(10, 1, 0, 0, 30, 9);
        Checks.dueVoyage("no way", desk, 0, 0, 0, 30, 4, Checks.MILLION + 90 - 28);
        Checks.due("fix(0, 0)", desk.fix(0, 0), 34);
        Checks.dueFixture("no way", desk, 0, 0, 0, 30, 30, 34, Checks.MILLION + 62, 0);
    }

    private static void voyageBeginsWhereTheShipIsFree() {
        ShipFixtures desk = new ShipFixtures();
        desk.ship(20, 10, 5, 0, 10);
        desk.cargo(20, 3, 1, 0, 12, 10);
        desk.cargo(20, 1, 3, 0, 17, 10);
        desk.cargo(20, 1, 3, 0, 18, 10);
        Checks.due("from 0 on 10 it comes to 1 on 11", desk.voyage(0, 1, 1), 11);
        desk.fix(0, 0);
        Checks.dueVoyage("from 1 on 18, a day behind the last", desk, 0, 1, 2, 18, 6, Checks.MILLION + 170);
        Checks.dueVoyage("from 1 on 18, on the last day", desk, 0, 2, 0, 18, 6, Checks.MILLION + 170);
        desk.settle(0);
        Checks.dueVoyage("settled, from 1 on 18", desk, 0, 1, 2, 18, 6, Checks.MILLION + 170);
        desk.delay(0, 1);
        Checks.dueVoyage("delayed, from 1 on 19", desk, 0, 2, 2, 19, 6, Checks.MILLION + 170);
    }

    private static void earnsTheMost() {
        ShipFixtures desk = new ShipFixtures();
        desk.port(1, 0, 0);
        desk.ship(99, 20, 1, 0, 0);
        for (int k = 0; k < 10; k++) {
            desk.cargo(99, k % 2, 1 - k % 2, 0, 999, 99);
        }
        Checks.dueVoyage("99 times 99 less 4 days", desk, 0, 0, 0, 0, 4, Checks.MILLION + 9797,
                Float.floatToIntBits(9797f / 4f));
        Checks.due("plan(1)", desk.plan(1), 97970);
        for (int k = 0; k < 10; k++) {
            desk.fix(0, k);
        }
        Checks.due("shipOf(0, 9)", desk.shipOf(0, 9), Checks.MILLION + 97970);
        Checks.due("settle(0)", desk.settle(0), Checks.MILLION + 97970);
        Checks.due("count(4)", desk.count(4), Checks.MILLION + 97970);
    }

    /** From day 0 to 999 waiting, then 2 days, 83 at sea (1980 by 24 a day, rounded up), and 2: 1086 days by 99. */
    private static void earnsTheLeast() {
        ShipFixtures desk = new ShipFixtures();
        desk.port(1, 99, 99);
        desk.ship(1, 1, 99, 0, 0);
        desk.cargo(1, 0, 1, 999, 999, 1);
        Checks.dueVoyage("the longest", desk, 0, 0, 0, 999, 1086, Checks.MILLION + 1 - 107514,
                Float.floatToIntBits(-107513f / 1086f));
        Checks.due("a loss all the same", desk.bestCargo(0), 0);
        Checks.due("a loss all the same", desk.bestShip(0), 0);
        Checks.due("plan(0)", desk.plan(0), 0);
        Checks.due("fix(0, 0)", desk.fix(0, 0), 1086);
        Checks.due("fixtureOf(0, 0, 4)", desk.fixtureOf(0, 0, 4), Checks.MILLION - 107513);
        Checks.due("settle(0)", desk.settle(0), Checks.MILLION - 107513);
        Checks.due("shipOf(0, 8)", desk.shipOf(0, 8), Checks.MILLION - 107513);
        Checks.due("shipOf(0, 6)", desk.shipOf(0, 6), 1086);
    }

    /** A ship of the most days, and what it earns from the least above 0 to the least below it. */
    private static void floatsOfTheDay() {
        for (int freight = 1; freight <= 99; freight++) {
            ShipFixtures desk = new ShipFixtures();
            desk.port(1, 0, 0);
            desk.ship(99, 20, 10, 0, 0);
            desk.cargo(1, 0, 1, 0, 999, freight);
            float earns = freight - 40;
            Checks.due("freight " + freight, desk.voyage(0, 0, 4), Float.floatToIntBits(earns / 4f));
        }
        for (int first = 0; first <= 999; first++) {
            ShipFixtures desk = new ShipFixtures();
            desk.ship(99, 20, 1, 0, 0);
            desk.cargo(1, 0, 1, first, 999, 6);
            desk.cargo(50, 0, 1, first, 999, 6);
            desk.cargo(99, 0, 1, first, 999, 10);
            float days = first + 5;
            Checks.due("6 in " + days, desk.voyage(0, 0, 4), Float.floatToIntBits((6f - days) / days));
            Checks.due("300 in " + days, desk.voyage(0, 1, 4), Float.floatToIntBits((300f - days) / days));
            Checks.due("990 in " + days, desk.voyage(0, 2, 4), Float.floatToIntBits((990f - days) / days));
        }
    }

    /** voyage tells of cargoes whether open or not. */
    private static void fixedOrGoneMakesNoDifference() {
        ShipFixtures desk = new ShipFixtures();
        desk.ship(20, 10, 5, 0, 10);
        desk.ship(20, 10, 5, 0, 10);
        desk.cargo(20, 3, 1, 0, 12, 10);
        int[] due = {0, 12, 8, Checks.MILLION + 160, Float.floatToIntBits(20f)};
        Checks.dueVoyage("open", desk, 1, 0, due);
        desk.fix(0, 0);
        Checks.dueVoyage("fixed", desk, 1, 0, due);
        desk.settle(0);
        Checks.dueVoyage("gone", desk, 1, 0, due);
    }
}
