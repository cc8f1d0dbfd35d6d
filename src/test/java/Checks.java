/** Counts answers that are not due; every test's main method ends with finish(). */
final class Checks {
    static final int BAD = ShipFixtures.INVALID_ARGUMENT;
    static final int NOT = ShipFixtures.NOT_POSSIBLE;
    static final int LIMIT = ShipFixtures.LIMIT_REACHED;
    static final int NONE = ShipFixtures.NOT_FOUND;
    static final int MILLION = 1000000;
    /** Numbers that are out of every range. */
    static final int[] WILD = {-1, Integer.MIN_VALUE, Integer.MAX_VALUE, 1000000, -1000001, 1 << 30};

    private static int checks = 0;
    private static int wrong = 0;

    private Checks() {
    }

    static void due(String call, long got, long want) {
        checks++;
        if (got != want) {
            wrong++;
            System.out.println(call + " answered " + got + ", due is " + want);
        }
    }

    static void holds(String what, boolean does) {
        due(what, does ? 1 : 0, 1);
    }

    /** Puts a text in place of the one that is there. */
    static void write(ShipFixtures desk, String text) {
        desk.clearText();
        for (int k = 0; k < text.length(); k++) {
            due("type '" + text.charAt(k) + "' of " + text, desk.type(text.charAt(k)), k + 1);
        }
    }

    /** All answers of count, to see that a call has changed nothing, or what it has changed. */
    static void dueCounts(String when, ShipFixtures desk, int... want) {
        for (int what = 0; what < want.length; what++) {
            due(when + ": count(" + what + ")", desk.count(what), want[what]);
        }
    }

    static void dueShip(String when, ShipFixtures desk, int ship, int... want) {
        for (int what = 0; what < want.length; what++) {
            due(when + ": shipOf(" + ship + ", " + what + ")", desk.shipOf(ship, what), want[what]);
        }
    }

    static void dueCargo(String when, ShipFixtures desk, int cargo, int... want) {
        for (int what = 0; what < want.length; what++) {
            due(when + ": cargoOf(" + cargo + ", " + what + ")", desk.cargoOf(cargo, what), want[what]);
        }
    }

    static void dueFixture(String when, ShipFixtures desk, int ship, int place, int... want) {
        for (int what = 0; what < want.length; what++) {
            due(when + ": fixtureOf(" + ship + ", " + place + ", " + what + ")",
                    desk.fixtureOf(ship, place, what), want[what]);
        }
    }

    static void dueVoyage(String when, ShipFixtures desk, int ship, int cargo, int... want) {
        for (int what = 0; what < want.length; what++) {
            due(when + ": voyage(" + ship + ", " + cargo + ", " + what + ")",
                    desk.voyage(ship, cargo, what), want[what]);
        }
    }

    static void duePlan(String when, ShipFixtures desk, int... want) {
        for (int what = 0; what < want.length; what++) {
            due(when + ": plan(" + what + ")", desk.plan(what), want[what]);
        }
    }

    static void dueFault(String text, ShipFixtures desk, int... want) {
        for (int what = 0; what < want.length; what++) {
            due("fault(" + what + ") of " + text, desk.fault(what), want[what]);
        }
    }

    static void finish(String name) {
        System.out.println(name + ": " + checks + " checks, " + wrong + " wrong");
        System.exit(wrong == 0 && checks > 0 ? 0 : 1);
    }
}
