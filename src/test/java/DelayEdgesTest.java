/** The sentences of 'Delays, calling off' and of the promises 5 to 8 and 17, at their edges. */
public final class DelayEdgesTest {
    public static void main(String[] args) {
        noFixture();
        leavesAtMostOn1999();
        farDaysDoNotWrapAround();
        firstOneTooLateAndAllBehind();
        waitingSwallowsDelays();
        onlyItsOwnFixtures();
        onlyThoseOfItsOwnShip();
        cancelledAllAtTheFirstPort();
        cancelledOnesStayGone();
        shorterVoyagesEarnMore();
        slackIsTheMostThatCancelsNone();
        slackFrom0To999();
        tenthRoundedUp();
        calledOffOneByOne();
        calledOffBehindADelay();
        calledOffIsOpenForAll();
        settledAtZero();
        settledFirstPortAndDay();
        settledAddsUp();
        tenFixtures();
        Checks.finish("DelayEdgesTest");
    }

    /** If it has no fixture, it is free later by so many days, at the same port. */
    private static void noFixture() {
        ShipFixtures desk = new ShipFixtures();
        desk.ship(9, 9, 9, 4, 0);
        Checks.due("delay(0, 1)", desk.delay(0, 1), 0);
        Checks.dueShip("by 1", desk, 0, 9, 9, 9, 4, 1, 4, 1, 0, Checks.MILLION, Checks.MILLION);
        Checks.due("delay(0, 99)", desk.delay(0, 99), 0);
        Checks.dueShip("by 99 more", desk, 0, 9, 9, 9, 4, 100, 4, 100, 0, Checks.MILLION, Checks.MILLION);
        Checks.due("slack(0)", desk.slack(0), Checks.NONE);
        Checks.due("count(5)", desk.count(5), 0);
    }

    private static void leavesAtMostOn1999() {
        for (int days = 1; days <= 99; days++) {
            ShipFixtures desk = new ShipFixtures();
            desk.ship(9, 9, 9, 4, 999);
            for (int k = 0; k < 10; k++) {
                desk.delay(0, 95);
            }
            boolean over = 1949 + days > 1999;
            Checks.due("from 1949 by " + days, desk.delay(0, days), over ? Checks.LIMIT : 0);
            Checks.due("it leaves", desk.shipOf(0, 6), over ? 1949 : 1949 + days);
            Checks.due("it is free", desk.shipOf(0, 4), over ? 1949 : 1949 + days);
        }
    }

    /** The days on which a ship is free may be above 999: settled at the latest, and then delayed up to 1999. */
    private static void farDaysDoNotWrapAround() {
        ShipFixtures desk = new ShipFixtures();
        desk.port(1, 99, 99);
        desk.ship(1, 1, 1, 0, 999);
        desk.cargo(1, 0, 1, 999, 999, 1);
        Checks.due("fix(0, 0)", desk.fix(0, 0), 1086);
        desk.settle(0);
        for (int k = 0; k < 9; k++) {
            Checks.due("delay(0, 99)", desk.delay(0, 99), 0);
        }
        Checks.due("to 2000", desk.delay(0, 23), Checks.LIMIT);
        Checks.due("to 1999", desk.delay(0, 22), 0);
        Checks.dueShip("on 1999", desk, 0, 1, 1, 1, 1, 1999, 1, 1999, 0, Checks.MILLION - 86, Checks.MILLION);
        desk.cargo(1, 0, 1, 0, 999, 99);
        Checks.dueVoyage("far too late", desk, 0, 1, 2, 1999 + 83, 83 + 2 + 83 + 2, Checks.MILLION + 99 - 170);
        Checks.due("bestCargo(0)", desk.bestCargo(0), Checks.NONE);
    }

    /** One ship with fixtures of 4 days each, without a way to sail; how much later each could come is given. */
    private static ShipFixtures chain(int... margins) {
        ShipFixtures desk = new ShipFixtures();
        desk.port(1, 0, 0);
        desk.ship(99, 20, 1, 0, 0);
        for (int k = 0; k < margins.length; k++) {
            desk.cargo(10, k % 2, 1 - k % 2, 0, 4 * k + margins[k], 9);
            Checks.due("fix(0, " + k + ")", desk.fix(0, k), 4 * k + 4);
        }
        return desk;
    }

    private static void firstOneTooLateAndAllBehind() {
        int[][] chains = {{0}, {3}, {5, 3, 4, 9}, {9, 9, 9, 2}, {2, 9, 9, 9}, {0, 0, 0}, {7, 6, 5, 4, 3},
            {3, 4, 5, 6, 7}, {1, 1}, {50, 2, 60}, {98, 99, 97}, {12, 30, 8, 30, 4, 30, 2, 30, 6, 1}};
        for (int[] margins : chains) {
            for (int days = 1; days <= 99; days++) {
                delayChain(margins, days);
            }
        }
    }

    private static void delayChain(int[] margins, int days) {
        ShipFixtures desk = chain(margins);
        int stay = 0;
        while (stay < margins.length && margins[stay] >= days) {
            stay++;
        }
        String what = margins.length + " fixtures, " + days + " days";
        Checks.due(what, desk.delay(0, days), margins.length - stay);
        Checks.dueShip(what, desk, 0, 99, 20, 1, stay % 2, 4 * stay + days, 0, days, stay,
                Checks.MILLION, Checks.MILLION + stay * 86);
        for (int k = 0; k < margins.length; k++) {
            Checks.due(what + ": state of " + k, desk.cargoOf(k, 6), k < stay ? 1 : 2);
            Checks.due(what + ": ship of " + k, desk.cargoOf(k, 7), k < stay ? 0 : Checks.NONE);
            Checks.due(what + ": margin of " + k, desk.fixtureOf(0, k, 5), k < stay ? margins[k] - days : Checks.NONE);
        }
        Checks.dueCounts(what, desk, 1, margins.length, 0, stay, Checks.MILLION, margins.length - stay, 0, 4, 0);
    }

    /** The first one waits 4 days, so the second one comes later only by what the delay is more than that. */
    private static void waitingSwallowsDelays() {
        for (int days = 1; days <= 8; days++) {
            ShipFixtures desk = new ShipFixtures();
            desk.port(1, 0, 0);
            desk.ship(99, 20, 1, 0, 0);
            desk.cargo(10, 0, 1, 4, 99, 9);
            desk.cargo(10, 1, 0, 0, 10, 9);
            desk.fix(0, 0);
            desk.fix(0, 1);
            Checks.due("the second could come 2 days later", desk.fixtureOf(0, 1, 5), 2);
            Checks.due("slack(0)", desk.slack(0), 6);
            Checks.due("delay(0, " + days + ")", desk.delay(0, days), days > 6 ? 1 : 0);
            int begins = days > 4 ? days : 4;
            Checks.dueFixture("by " + days, desk, 0, 0, 0, days, begins, begins + 4);
            Checks.due("it is free", desk.shipOf(0, 4), days > 6 ? begins + 4 : begins + 8);
        }
    }

    /** Fixtures behind the first one too late are cancelled even if they would be in time without those ahead. */
    private static void onlyItsOwnFixtures() {
        ShipFixtures desk = chain(9, 1, 900);
        Checks.due("delay(0, 2)", desk.delay(0, 2), 2);
        Checks.due("in time by itself", desk.voyage(0, 2, 0), 0);
        Checks.due("and gone", desk.cargoOf(2, 6), 2);
    }

    private static void onlyThoseOfItsOwnShip() {
        ShipFixtures desk = chain(0, 0);
        desk.ship(99, 20, 1, 0, 0);
        desk.cargo(10, 0, 1, 0, 0, 9);
        Checks.due("fix(1, 2)", desk.fix(1, 2), 4);
        Checks.due("delay(0, 99)", desk.delay(0, 99), 2);
        Checks.dueShip("the other ship", desk, 1, 99, 20, 1, 1, 4, 0, 0, 1, Checks.MILLION, Checks.MILLION + 86);
        Checks.dueCargo("its cargo", desk, 2, 10, 0, 1, 0, 0, 9, 1, 1);
        Checks.due("delay(1, 1)", desk.delay(1, 1), 1);
        Checks.due("count(5)", desk.count(5), 3);
    }

    /** Free at its first port, on the day on which it would leave that now. */
    private static void cancelledAllAtTheFirstPort() {
        ShipFixtures desk = new ShipFixtures();
        desk.ship(20, 10, 5, 6, 10);
        desk.cargo(20, 3, 1, 0, 12, 10);
        Checks.due("fix(0, 0)", desk.fix(0, 0), 18);
        Checks.due("delay(0, 1)", desk.delay(0, 1), 1);
        Checks.dueShip("cancelled", desk, 0, 20, 10, 5, 6, 11, 6, 11, 0, Checks.MILLION, Checks.MILLION);
        Checks.due("delay(0, 1) again", desk.delay(0, 1), 0);
        Checks.due("count(5)", desk.count(5), 1);
    }

    private static void cancelledOnesStayGone() {
        ShipFixtures desk = chain(5, 0);
        desk.delay(0, 1);
        desk.ship(99, 20, 1, 1, 0);
        Checks.due("another ship would be in time", desk.voyage(1, 1, 0), 0);
        Checks.due("fix(1, 1)", desk.fix(1, 1), Checks.NOT);
        Checks.due("bestShip(1)", desk.bestShip(1), Checks.NOT);
        Checks.due("bestCargo(1)", desk.bestCargo(1), Checks.NONE);
        Checks.due("plan(0)", desk.plan(0), 0);
        Checks.due("plan(2)", desk.plan(2), 0);
        Checks.due("callOff(0)", desk.callOff(0), 9);
        Checks.due("the one ahead is open", desk.cargoOf(0, 6), 0);
        Checks.due("the cancelled one is not", desk.cargoOf(1, 6), 2);
    }

    /** A ship that leaves later waits less, and its voyage costs less. */
    private static void shorterVoyagesEarnMore() {
        ShipFixtures desk = new ShipFixtures();
        desk.port(1, 0, 0);
        desk.ship(99, 20, 7, 0, 0);
        desk.cargo(10, 0, 1, 20, 30, 9);
        desk.fix(0, 0);
        for (int day = 0; day <= 30; day++) {
            int days = day < 20 ? 24 - day : 4;
            Checks.due("leaving on " + day, desk.shipOf(0, 9), Checks.MILLION + 90 - 7 * days);
            Checks.due("leaving on " + day, desk.fixtureOf(0, 0, 4), Checks.MILLION + 90 - 7 * days);
            Checks.due("leaving on " + day, desk.slack(0), 30 - day);
            Checks.due("delay(0, 1)", desk.delay(0, 1), day < 30 ? 0 : 1);
        }
    }

    private static void slackIsTheMostThatCancelsNone() {
        int[][] chains = {{0}, {1}, {98}, {99}, {5, 3, 4, 9}, {0, 9}, {9, 0}, {99, 1}, {1, 99}, {4, 4, 4, 4}};
        for (int[] margins : chains) {
            int slack = chain(margins).slack(0);
            if (slack > 0) {
                ShipFixtures desk = chain(margins);
                Checks.due("delay by the slack", desk.delay(0, slack), 0);
                Checks.due("no slack is left", desk.slack(0), 0);
            }
            if (slack < 99) {
                Checks.holds("a day more cancels", chain(margins).delay(0, slack + 1) > 0);
            }
        }
        Checks.due("slack of 5, 3, 4, 9", chain(5, 3, 4, 9).slack(0), 3);
        Checks.due("slack of 0, 9", chain(0, 9).slack(0), 0);
        Checks.due("slack of 9, 0", chain(9, 0).slack(0), 0);
    }

    private static void slackFrom0To999() {
        for (int last = 0; last <= 999; last++) {
            ShipFixtures desk = new ShipFixtures();
            desk.ship(99, 20, 1, 0, 0);
            desk.cargo(10, 0, 1, last, last, 9);
            desk.fix(0, 0);
            Checks.due("slack up to " + last, desk.slack(0), last);
        }
        // waiting ahead of the second fixture makes its slack, which its own margin of 0 does not tell
        ShipFixtures desk = new ShipFixtures();
        desk.port(1, 0, 0);
        desk.ship(99, 20, 1, 0, 0);
        desk.cargo(10, 0, 1, 995, 999, 9);
        desk.cargo(10, 1, 0, 0, 999, 9);
        desk.fix(0, 0);
        Checks.due("of the first", desk.slack(0), 999);
        desk.fix(0, 1);
        Checks.due("margin of the second", desk.fixtureOf(0, 1, 5), 0);
        Checks.due("of both", desk.slack(0), 995);
    }

    /** All that a cargo can be worth. */
    private static void tenthRoundedUp() {
        for (int amount = 1; amount <= 99; amount++) {
            for (int freight = 1; freight <= 99; freight += 9) {
                ShipFixtures desk = new ShipFixtures();
                desk.ship(99, 20, 1, 0, 0);
                int paid = 0;
                for (int k = 0; k < 9; k++) {
                    int worth = amount * (freight + k);
                    int due = worth / 10 + (worth % 10 > 0 ? 1 : 0);
                    desk.cargo(amount, 0, 1, 0, 999, freight + k);
                    desk.fix(0, k);
                    Checks.due("a tenth of " + worth, desk.callOff(0), due);
                    paid += due;
                }
                Checks.due("its account", desk.shipOf(0, 8), Checks.MILLION - paid);
                Checks.due("all accounts", desk.count(4), Checks.MILLION - paid);
                Checks.due("called off", desk.count(6), 9);
            }
        }
    }

    /** The last one each time; the ship is where and when it was ahead of it, behind the first at its first port. */
    private static void calledOffOneByOne() {
        ShipFixtures desk = chain(5, 3, 4);
        for (int left = 2; left >= 0; left--) {
            Checks.due("callOff(0), " + left + " left", desk.callOff(0), 9);
            Checks.dueShip(left + " left", desk, 0, 99, 20, 1, left % 2, 4 * left, 0, 0, left,
                    Checks.MILLION - 9 * (3 - left), Checks.MILLION + 86 * left);
            for (int k = 0; k < 3; k++) {
                Checks.due(left + " left: state of " + k, desk.cargoOf(k, 6), k < left ? 1 : 0);
            }
            Checks.dueCounts(left + " left", desk, 1, 3, 3 - left, left, Checks.MILLION - 9 * (3 - left), 0, 3 - left);
        }
        Checks.due("none is left", desk.callOff(0), Checks.NOT);
    }

    private static void calledOffBehindADelay() {
        ShipFixtures desk = chain(5, 3);
        desk.delay(0, 3);
        Checks.due("callOff(0)", desk.callOff(0), 9);
        Checks.dueShip("behind the first", desk, 0, 99, 20, 1, 1, 7, 0, 3, 1, Checks.MILLION - 9, Checks.MILLION + 86);
        Checks.due("callOff(0)", desk.callOff(0), 9);
        Checks.dueShip("at its first port", desk, 0, 99, 20, 1, 0, 3, 0, 3, 0, Checks.MILLION - 18, Checks.MILLION);
    }

    private static void calledOffIsOpenForAll() {
        ShipFixtures desk = chain(5);
        desk.ship(99, 20, 1, 0, 0);
        desk.callOff(0);
        Checks.due("for a plan", desk.plan(0), 1);
        Checks.due("for the best ship", desk.bestShip(0), 0);
        Checks.due("for the best cargo", desk.bestCargo(1), 0);
        Checks.due("for another ship", desk.fix(1, 0), 4);
        Checks.due("its ship", desk.cargoOf(0, 7), 1);
        Checks.due("the other one pays", desk.callOff(1), 9);
        Checks.due("account of 0", desk.shipOf(0, 8), Checks.MILLION - 9);
        Checks.due("account of 1", desk.shipOf(1, 8), Checks.MILLION - 9);
        Checks.due("for itself", desk.fix(0, 0), 4);
    }

    /** What fixtures earn together may be 0, just above it and just below it. */
    private static void settledAtZero() {
        for (int freight = 3; freight <= 5; freight++) {
            ShipFixtures desk = new ShipFixtures();
            desk.port(1, 0, 0);
            desk.ship(99, 20, 1, 0, 0);
            desk.cargo(1, 0, 1, 0, 0, freight);
            desk.fix(0, 0);
            Checks.due("freight " + freight, desk.settle(0), Checks.MILLION + freight - 4);
            Checks.due("account", desk.shipOf(0, 8), Checks.MILLION + freight - 4);
            Checks.due("what fixtures earn now", desk.shipOf(0, 9), Checks.MILLION);
        }
    }

    /** Its first port and day are where and when it is free: a delay counts from there, and calls nothing back. */
    private static void settledFirstPortAndDay() {
        ShipFixtures desk = chain(5, 3, 4);
        Checks.due("settle(0)", desk.settle(0), Checks.MILLION + 258);
        Checks.dueShip("settled", desk, 0, 99, 20, 1, 1, 12, 1, 12, 0, Checks.MILLION + 258, Checks.MILLION);
        for (int k = 0; k < 3; k++) {
            Checks.dueCargo("settled", desk, k, 10, k % 2, 1 - k % 2, 0, 4 * k + new int[] {5, 3, 4}[k], 9, 2,
                    Checks.NONE);
        }
        Checks.due("slack(0)", desk.slack(0), Checks.NONE);
        Checks.due("fixtureOf(0, 0, 0)", desk.fixtureOf(0, 0, 0), Checks.NONE);
        Checks.due("callOff(0)", desk.callOff(0), Checks.NOT);
        Checks.due("settle(0)", desk.settle(0), Checks.NOT);
        Checks.due("delay(0, 99)", desk.delay(0, 99), 0);
        Checks.dueShip("delayed", desk, 0, 99, 20, 1, 1, 111, 1, 111, 0, Checks.MILLION + 258, Checks.MILLION);
        Checks.dueCounts("settled ones are not cancelled", desk, 1, 3, 0, 0, Checks.MILLION + 258, 0, 0);
    }

    private static void settledAddsUp() {
        ShipFixtures desk = chain(99, 99);
        desk.ship(99, 20, 2, 0, 0);
        desk.cargo(10, 0, 1, 0, 99, 9);
        desk.cargo(10, 1, 0, 0, 99, 9);
        Checks.due("fix(1, 2)", desk.fix(1, 2), 4);
        Checks.due("settle(0)", desk.settle(0), Checks.MILLION + 172);
        Checks.due("fix(0, 3)", desk.fix(0, 3), 12);
        Checks.due("settle(0) again", desk.settle(0), Checks.MILLION + 86);
        Checks.due("account of 0", desk.shipOf(0, 8), Checks.MILLION + 258);
        Checks.due("account of 1", desk.shipOf(1, 8), Checks.MILLION);
        Checks.due("callOff(1)", desk.callOff(1), 9);
        Checks.due("account of 1", desk.shipOf(1, 8), Checks.MILLION - 9);
        Checks.due("both", desk.count(4), Checks.MILLION + 249);
    }

    /** A ship can have all ten cargoes, and lose or settle them all at once. */
    private static void tenFixtures() {
        int[] margins = {9, 9, 9, 9, 9, 9, 9, 9, 9, 9};
        ShipFixtures desk = chain(margins);
        Checks.due("shipOf(0, 7)", desk.shipOf(0, 7), 10);
        Checks.due("shipOf(0, 4)", desk.shipOf(0, 4), 40);
        Checks.dueFixture("the tenth", desk, 0, 9, 9, 36, 36, 40, Checks.MILLION + 86, 9);
        Checks.due("an eleventh", desk.fixtureOf(0, 10, 0), Checks.NONE);
        Checks.due("slack(0)", desk.slack(0), 9);
        Checks.due("delay(0, 9)", desk.delay(0, 9), 0);
        Checks.due("delay(0, 1)", desk.delay(0, 1), 10);
        Checks.due("count(5)", desk.count(5), 10);
        ShipFixtures other = chain(margins);
        Checks.due("settle(0)", other.settle(0), Checks.MILLION + 860);
        Checks.dueCounts("all gone", other, 1, 10, 0, 0, Checks.MILLION + 860, 0, 0);
        ShipFixtures third = chain(margins);
        for (int k = 9; k >= 0; k--) {
            Checks.due("callOff(0)", third.callOff(0), 9);
            Checks.due("the last one", third.cargoOf(k, 6), 0);
        }
        Checks.due("count(6)", third.count(6), 10);
    }
}
