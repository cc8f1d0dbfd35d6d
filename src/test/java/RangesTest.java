import java.util.ArrayList;
import java.util.List;
import java.util.function.Supplier;

/**
 * The range behind each argument's name, promise by promise: every value in it is taken, and none outside it,
 * from the first one on either side to the greatest and the least int.
 */
public final class RangesTest {
    private interface Call {
        int with(ShipFixtures desk, int value);
    }

    public static void main(String[] args) {
        portRanges();
        portKeepsWhatItGot();
        shipRanges();
        shipKeepsWhatItGot();
        cargoRanges();
        cargoSpans();
        cargoPortPairs();
        cargoKeepsWhatItGot();
        distanceRanges();
        daysOfDelay();
        numbersOfShips();
        numbersOfCargoes();
        shipOfWhat();
        cargoOfWhat();
        fixtureOfWhat();
        fixtureOfPlace();
        voyageWhat();
        planWhat();
        countWhat();
        faultWhat();
        characters();
        Checks.finish("RangesTest");
    }

    // ---- how a range is tried

    /** Values outside a range: next to it, far out, and those that a narrower number would take for one inside. */
    private static List<Integer> outside(int least, int most) {
        int[] tried = {least - 1, least - 2, most + 1, most + 2, -1, -2, 1000, 1001, 1 << 30, -(1 << 30),
            Integer.MAX_VALUE, Integer.MAX_VALUE - 1, Integer.MIN_VALUE, Integer.MIN_VALUE + 1,
            least + 256, most + 256, least - 256, least + 65536, most + 65536, least - 65536,
            Integer.MIN_VALUE + least, Integer.MIN_VALUE + most, -most, Checks.BAD, Checks.NOT, Checks.LIMIT,
            Checks.NONE, Checks.MILLION};
        List<Integer> values = new ArrayList<>();
        for (int value : tried) {
            if ((value < least || value > most) && !values.contains(value)) {
                values.add(value);
            }
        }
        return values;
    }

    private static void range(String call, Supplier<ShipFixtures> desks, int least, int most, Call it) {
        for (int value = least; value <= most; value++) {
            int answer = it.with(desks.get(), value);
            Checks.holds(call + " takes " + value + ", answered " + answer, !isError(answer));
        }
        refused(call, desks, least, most, it);
    }

    /** Only that the values outside are refused, and that no state is kept for them. */
    private static void refused(String call, Supplier<ShipFixtures> desks, int least, int most, Call it) {
        for (int value : outside(least, most)) {
            ShipFixtures desk = desks.get();
            int states = desk.count(7);
            Checks.due(call + " of " + value, it.with(desk, value), Checks.BAD);
            Checks.due(call + " of " + value + ": count(7)", desk.count(7), states);
        }
    }

    private static boolean isError(int answer) {
        return answer >= Checks.NONE && answer <= Checks.BAD;
    }

    // ---- promise 2

    private static void portRanges() {
        range("port(?, 5, 6)", ShipFixtures::new, 0, 7, (desk, v) -> desk.port(v, 5, 6));
        range("port(3, ?, 6)", ShipFixtures::new, 0, 99, (desk, v) -> desk.port(3, v, 6));
        range("port(3, 5, ?)", ShipFixtures::new, 0, 99, (desk, v) -> desk.port(3, 5, v));
    }

    private static void portKeepsWhatItGot() {
        for (int port = 0; port < 8; port++) {
            ShipFixtures desk = new ShipFixtures();
            Checks.due("port " + port + " at first", desk.port(port, 0, 0), 1000 * port + 5 * (port % 3));
            for (int v = 0; v < 99; v++) {
                Checks.due("port " + port, desk.port(port, v + 1, 98 - v), v == 0 ? 0 : 100 * v + 99 - v);
            }
            Checks.due("port " + port + " in the corner", desk.port(port, 99, 99), 9900);
            Checks.due("port " + port + " from the corner", desk.port(port, 0, 99), 9999);
            Checks.due("port " + port + " from the other one", desk.port(port, 99, 0), 99);
        }
    }

    // ---- promise 3

    private static void shipRanges() {
        range("ship(?, 2, 3, 4, 5)", ShipFixtures::new, 1, 99, (desk, v) -> desk.ship(v, 2, 3, 4, 5));
        range("ship(1, ?, 3, 4, 5)", ShipFixtures::new, 1, 20, (desk, v) -> desk.ship(1, v, 3, 4, 5));
        range("ship(1, 2, ?, 4, 5)", ShipFixtures::new, 1, 99, (desk, v) -> desk.ship(1, 2, v, 4, 5));
        range("ship(1, 2, 3, ?, 5)", ShipFixtures::new, 0, 7, (desk, v) -> desk.ship(1, 2, 3, v, 5));
        range("ship(1, 2, 3, 4, ?)", ShipFixtures::new, 0, 999, (desk, v) -> desk.ship(1, 2, 3, 4, v));
    }

    private static void shipKeepsWhatItGot() {
        for (int v = 1; v <= 999; v++) {
            ShipFixtures desk = new ShipFixtures();
            int size = 1 + v % 99;
            int speed = 1 + v % 20;
            int cost = 99 - v % 99;
            Checks.due("ship", desk.ship(size, speed, cost, v % 8, v), 0);
            Checks.dueShip("ship of " + v, desk, 0, size, speed, cost, v % 8, v, v % 8, v, 0,
                    Checks.MILLION, Checks.MILLION);
        }
    }

    // ---- promise 4

    private static void cargoRanges() {
        range("cargo(?, 2, 3, 4, 5, 6)", ShipFixtures::new, 1, 99, (desk, v) -> desk.cargo(v, 2, 3, 4, 5, 6));
        range("cargo(1, ?, 7, 4, 5, 6)", ShipFixtures::new, 0, 6, (desk, v) -> desk.cargo(1, v, 7, 4, 5, 6));
        range("cargo(1, ?, 0, 4, 5, 6)", ShipFixtures::new, 1, 7, (desk, v) -> desk.cargo(1, v, 0, 4, 5, 6));
        range("cargo(1, 7, ?, 4, 5, 6)", ShipFixtures::new, 0, 6, (desk, v) -> desk.cargo(1, 7, v, 4, 5, 6));
        range("cargo(1, 0, ?, 4, 5, 6)", ShipFixtures::new, 1, 7, (desk, v) -> desk.cargo(1, 0, v, 4, 5, 6));
        range("cargo(1, 2, 3, ?, 999, 6)", ShipFixtures::new, 0, 999, (desk, v) -> desk.cargo(1, 2, 3, v, 999, 6));
        range("cargo(1, 2, 3, 4, 5, ?)", ShipFixtures::new, 1, 99, (desk, v) -> desk.cargo(1, 2, 3, 4, 5, v));
    }

    /** last: first to 999. */
    private static void cargoSpans() {
        for (int first : new int[] {0, 1, 2, 255, 256, 500, 998, 999}) {
            String call = "cargo(1, 2, 3, " + first + ", ?, 6)";
            range(call, ShipFixtures::new, first, 999, (desk, v) -> desk.cargo(1, 2, 3, first, v, 6));
            Checks.due("first and last behind " + first + " and wild",
                    new ShipFixtures().cargo(1, 2, 3, Integer.MAX_VALUE, first, 6), Checks.BAD);
        }
        for (int both : outside(0, 999)) {
            Checks.due("first and last " + both, new ShipFixtures().cargo(1, 2, 3, both, both, 6), Checks.BAD);
            Checks.due("first ahead, last 999", new ShipFixtures().cargo(1, 2, 3, both, 999, 6), Checks.BAD);
        }
    }

    private static void cargoPortPairs() {
        for (int loads = 0; loads < 8; loads++) {
            for (int unloads = 0; unloads < 8; unloads++) {
                ShipFixtures desk = new ShipFixtures();
                int due = loads == unloads ? Checks.BAD : 0;
                Checks.due("cargo from " + loads + " to " + unloads, desk.cargo(1, loads, unloads, 4, 5, 6), due);
                Checks.due("count(1)", desk.count(1), due == 0 ? 1 : 0);
            }
        }
        for (int same : outside(0, 7)) {
            Checks.due("from and to " + same, new ShipFixtures().cargo(1, same, same, 4, 5, 6), Checks.BAD);
        }
    }

    private static void cargoKeepsWhatItGot() {
        for (int v = 0; v <= 999; v++) {
            ShipFixtures desk = new ShipFixtures();
            int amount = 1 + v % 99;
            int freight = 99 - v % 99;
            int last = v + (999 - v) / 2;
            Checks.due("cargo", desk.cargo(amount, v % 8, (v + 1) % 8, v, last, freight), 0);
            Checks.dueCargo("cargo of " + v, desk, 0, amount, v % 8, (v + 1) % 8, v, last, freight, 0, Checks.NONE);
        }
    }

    // ---- promises 6 and 12

    private static void distanceRanges() {
        range("distance(?, 3)", ShipFixtures::new, 0, 7, (desk, v) -> desk.distance(v, 3));
        range("distance(3, ?)", ShipFixtures::new, 0, 7, (desk, v) -> desk.distance(3, v));
        for (int both : outside(0, 7)) {
            Checks.due("distance of " + both + " to itself", new ShipFixtures().distance(both, both), Checks.BAD);
        }
    }

    private static void daysOfDelay() {
        range("delay(0, ?)", () -> ships(1), 1, 99, (desk, v) -> desk.delay(0, v));
        for (int days = 1; days <= 99; days++) {
            ShipFixtures desk = ships(1);
            desk.delay(0, days);
            Checks.due("delayed by " + days, desk.shipOf(0, 6), days);
        }
    }

    // ---- numbers of ships and cargoes, of none to as many as there can be

    /** So many ships, each with a fixture, and one open cargo more, which each of them can take. */
    private static ShipFixtures ships(int count) {
        ShipFixtures desk = new ShipFixtures();
        for (int k = 0; k < count; k++) {
            desk.ship(50, 20, 1, 0, 0);
            desk.cargo(50, 0, 1, 0, 999, 50);
            desk.fix(k, k);
        }
        desk.cargo(50, 1, 0, 0, 999, 50);
        return desk;
    }

    private static void numbersOfShips() {
        for (int count = 0; count <= 5; count++) {
            int spare = count;
            int most = count - 1;
            Supplier<ShipFixtures> some = () -> ships(spare);
            range("fix(?, open one)", some, 0, most, (desk, v) -> desk.fix(v, spare));
            range("delay(?, 1)", some, 0, most, (desk, v) -> desk.delay(v, 1));
            range("callOff(?)", some, 0, most, (desk, v) -> desk.callOff(v));
            range("settle(?)", some, 0, most, (desk, v) -> desk.settle(v));
            range("shipOf(?, 0)", some, 0, most, (desk, v) -> desk.shipOf(v, 0));
            range("fixtureOf(?, 0, 0)", some, 0, most, (desk, v) -> desk.fixtureOf(v, 0, 0));
            range("voyage(?, open one, 0)", some, 0, most, (desk, v) -> desk.voyage(v, spare, 0));
            range("bestCargo(?)", some, 0, most, (desk, v) -> desk.bestCargo(v));
            range("slack(?)", some, 0, most, (desk, v) -> desk.slack(v));
        }
    }

    private static ShipFixtures cargoes(int count) {
        ShipFixtures desk = new ShipFixtures();
        desk.ship(50, 20, 1, 0, 0);
        for (int k = 0; k < count; k++) {
            desk.cargo(50, 0, 1, 0, 999, 50);
        }
        return desk;
    }

    private static void numbersOfCargoes() {
        for (int count = 0; count <= 10; count++) {
            int all = count;
            int most = count - 1;
            Supplier<ShipFixtures> some = () -> cargoes(all);
            range("fix(0, ?)", some, 0, most, (desk, v) -> desk.fix(0, v));
            range("cargoOf(?, 0)", some, 0, most, (desk, v) -> desk.cargoOf(v, 0));
            range("voyage(0, ?, 0)", some, 0, most, (desk, v) -> desk.voyage(0, v, 0));
            range("bestShip(?)", some, 0, most, (desk, v) -> desk.bestShip(v));
        }
    }

    // ---- what

    private static void shipOfWhat() {
        range("shipOf(0, ?)", () -> ships(1), 0, 9, (desk, v) -> desk.shipOf(0, v));
    }

    private static void cargoOfWhat() {
        range("cargoOf(fixed, ?)", () -> ships(1), 0, 7, (desk, v) -> desk.cargoOf(0, v));
        range("cargoOf(open, ?)", () -> ships(1), 0, 6, (desk, v) -> v == 7 ? Checks.BAD : desk.cargoOf(1, v));
    }

    private static void fixtureOfWhat() {
        range("fixtureOf(0, 0, ?)", () -> ships(1), 0, 5, (desk, v) -> desk.fixtureOf(0, 0, v));
    }

    /** Places from 0 on are in the range, all of them; those behind the last fixture are NOT_FOUND. */
    private static void fixtureOfPlace() {
        ShipFixtures desk = ships(1);
        Checks.due("place 0", desk.fixtureOf(0, 0, 3), 6 - 1);
        for (int place : new int[] {1, 2, 9, 10, 11, 256, 65536, Integer.MAX_VALUE}) {
            Checks.due("place " + place, desk.fixtureOf(0, place, 3), Checks.NONE);
        }
        for (int place : new int[] {-1, -2, -256, -65536, Integer.MIN_VALUE, Integer.MIN_VALUE + 1}) {
            Checks.due("place " + place, desk.fixtureOf(0, place, 3), Checks.BAD);
        }
    }

    private static void voyageWhat() {
        range("voyage(0, 1, ?)", () -> ships(1), 0, 4, (desk, v) -> desk.voyage(0, 1, v));
    }

    private static void planWhat() {
        range("plan(?)", () -> ships(1), 0, 3, (desk, v) -> desk.plan(v));
        range("plan(?) of a new desk", ShipFixtures::new, 0, 3, (desk, v) -> desk.plan(v));
    }

    private static void countWhat() {
        range("count(?)", () -> ships(1), 0, 8, (desk, v) -> desk.count(v));
        range("count(?) of a new desk", ShipFixtures::new, 0, 8, (desk, v) -> desk.count(v));
    }

    private static void faultWhat() {
        range("fault(?)", RangesTest::faulty, 0, 2, (desk, v) -> desk.fault(v));
        refused("fault(?) of a text without fault", ShipFixtures::new, 0, 2, (desk, v) -> desk.fault(v));
    }

    private static ShipFixtures faulty() {
        ShipFixtures desk = new ShipFixtures();
        Checks.write(desk, "x");
        return desk;
    }

    // ---- promise 20

    private static void characters() {
        range("type(?)", ShipFixtures::new, 32, 126, (desk, v) -> desk.type(v));
        for (int character = 32; character <= 126; character++) {
            ShipFixtures desk = new ShipFixtures();
            Checks.due("type(" + character + ")", desk.type(character), 1);
            boolean begins = "scfd".indexOf(character) >= 0;
            Checks.dueFault("(char) " + character, desk, 0, 1, begins ? 1 : 0);
        }
    }
}
