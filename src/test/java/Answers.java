import java.util.ArrayList;
import java.util.List;

/** All that a desk answers when it is asked: desks that answer alike stand alike. Some 350 calls for a full desk. */
final class Answers {
    private final List<String> told = new ArrayList<>();
    private final ShipFixtures desk;

    private Answers(ShipFixtures desk) {
        this.desk = desk;
    }

    static List<String> of(ShipFixtures desk) {
        Answers all = new Answers(desk);
        all.askCounts();
        all.askPorts();
        all.askShips();
        all.askCargoes();
        all.askPairs();
        return all.told;
    }

    /** Two desks must answer alike; then their ports must be at the same places, which only a change can tell. */
    static void alike(String when, ShipFixtures one, ShipFixtures other) {
        due(when, of(one), of(other));
        for (int ship = 0; ship < 5; ship++) {
            Checks.due(when + ": settle(" + ship + ")", one.settle(ship), other.settle(ship));
        }
        for (int port = 0; port < 8; port++) {
            Checks.due(when + ": port(" + port + ", 0, 0)", one.port(port, 0, 0), other.port(port, 0, 0));
        }
    }

    static void due(String when, List<String> got, List<String> want) {
        Checks.due(when + ": how many answers", got.size(), want.size());
        for (int k = 0; k < got.size() && k < want.size(); k++) {
            Checks.holds(when + ": " + got.get(k) + ", due is " + want.get(k), got.get(k).equals(want.get(k)));
        }
    }

    private void tell(String call, int answer) {
        told.add(call + " answered " + answer);
    }

    private void askCounts() {
        for (int what = 0; what <= 8; what++) {
            tell("count(" + what + ")", desk.count(what));
        }
        for (int what = 0; what <= 3; what++) {
            tell("plan(" + what + ")", desk.plan(what));
        }
        for (int what = 0; what <= 2; what++) {
            tell("fault(" + what + ")", desk.fault(what));
        }
    }

    private void askPorts() {
        for (int one = 0; one < 8; one++) {
            for (int other = one + 1; other < 8; other++) {
                tell("distance(" + one + ", " + other + ")", desk.distance(one, other));
            }
        }
    }

    private void askShips() {
        int ships = desk.count(0);
        for (int ship = 0; ship < ships; ship++) {
            for (int what = 0; what <= 9; what++) {
                tell("shipOf(" + ship + ", " + what + ")", desk.shipOf(ship, what));
            }
            tell("slack(" + ship + ")", desk.slack(ship));
            tell("bestCargo(" + ship + ")", desk.bestCargo(ship));
            int fixtures = desk.shipOf(ship, 7);
            for (int place = 0; place < fixtures; place++) {
                for (int what = 0; what <= 5; what++) {
                    tell("fixtureOf(" + ship + ", " + place + ", " + what + ")", desk.fixtureOf(ship, place, what));
                }
            }
        }
    }

    private void askCargoes() {
        int cargoes = desk.count(1);
        for (int cargo = 0; cargo < cargoes; cargo++) {
            for (int what = 0; what <= 7; what++) {
                tell("cargoOf(" + cargo + ", " + what + ")", desk.cargoOf(cargo, what));
            }
            tell("bestShip(" + cargo + ")", desk.bestShip(cargo));
        }
    }

    /** One of its four numbers for each voyage, as all of them would be more calls than a desk may get. */
    private void askPairs() {
        int ships = desk.count(0);
        int cargoes = desk.count(1);
        for (int ship = 0; ship < ships; ship++) {
            for (int cargo = 0; cargo < cargoes; cargo++) {
                int what = 1 + (ship + cargo) % 4;
                tell("voyage(" + ship + ", " + cargo + ", 0)", desk.voyage(ship, cargo, 0));
                tell("voyage(" + ship + ", " + cargo + ", " + what + ")", desk.voyage(ship, cargo, what));
            }
        }
    }
}
