import java.util.ArrayList;
import java.util.List;
import java.util.function.Supplier;
import java.util.function.ToIntFunction;

/**
 * "A call that returns an error changes nothing": each such call alone, on an empty, a busy and a full desk, against
 * a twin that did not get it, with all states of the history ahead of it. And what only asks changes nothing either.
 */
public final class NoChangeTest {
    private static final int MOST_STATES = 4;

    private record Refused(String name, int error, ToIntFunction<ShipFixtures> call) {
    }

    private static final List<Refused> CALLS = new ArrayList<>();

    public static void main(String[] args) {
        onANewDesk();
        onABusyDesk();
        onAFullDesk();
        onADeskWithASoundText();
        questionsChangeNothing();
        manyRefusedCalls();
        Checks.finish("NoChangeTest");
    }

    private static void refused(String name, int error, ToIntFunction<ShipFixtures> call) {
        CALLS.add(new Refused(name, error, call));
    }

    /** Each call alone, then all of them one behind another, with no, one and all states taken back behind them. */
    private static void tryAll(String which, Supplier<ShipFixtures> desks) {
        for (Refused it : CALLS) {
            ShipFixtures desk = desks.get();
            Checks.due(which + ": " + it.name, it.call.applyAsInt(desk), it.error);
            Answers.alike(which + " behind " + it.name, desk, desks.get());
        }
        for (int undos = 0; undos <= MOST_STATES; undos++) {
            ShipFixtures desk = desks.get();
            for (Refused it : CALLS) {
                Checks.due(which + ": " + it.name, it.call.applyAsInt(desk), it.error);
            }
            ShipFixtures twin = desks.get();
            for (int k = 0; k < undos; k++) {
                Checks.due(which + ": undo()", desk.undo(), twin.undo());
            }
            Answers.alike(which + " behind " + undos + " undos", desk, twin);
        }
        CALLS.clear();
    }

    private static void onANewDesk() {
        refused("undo()", Checks.NOT, desk -> desk.undo());
        refused("fix(0, 0)", Checks.BAD, desk -> desk.fix(0, 0));
        refused("delay(0, 1)", Checks.BAD, desk -> desk.delay(0, 1));
        refused("callOff(0)", Checks.BAD, desk -> desk.callOff(0));
        refused("settle(0)", Checks.BAD, desk -> desk.settle(0));
        refused("port(8, 0, 0)", Checks.BAD, desk -> desk.port(8, 0, 0));
        refused("ship of speed 21", Checks.BAD, desk -> desk.ship(1, 21, 1, 0, 0));
        refused("cargo from 1 to 1", Checks.BAD, desk -> desk.cargo(1, 1, 1, 0, 0, 1));
        refused("type(127)", Checks.BAD, desk -> desk.type(127));
        refused("fault(0)", Checks.NONE, desk -> desk.fault(0));
        tryAll("a new desk", ShipFixtures::new);
    }

    private static void onABusyDesk() {
        refusedPorts();
        refusedShips();
        refusedCargoes();
        refusedFixtures();
        refusedQuestions();
        tryAll("a busy desk", Desks::busy);
    }

    private static void refusedPorts() {
        refused("port(-1, 1, 2)", Checks.BAD, desk -> desk.port(-1, 1, 2));
        refused("port(8, 1, 2)", Checks.BAD, desk -> desk.port(8, 1, 2));
        refused("port(0, -1, 2)", Checks.BAD, desk -> desk.port(0, -1, 2));
        refused("port(0, 100, 2)", Checks.BAD, desk -> desk.port(0, 100, 2));
        refused("port(0, 1, -1)", Checks.BAD, desk -> desk.port(0, 1, -1));
        refused("port(0, 1, 100)", Checks.BAD, desk -> desk.port(0, 1, 100));
        refused("port(0, 1, 2)", Checks.NOT, desk -> desk.port(0, 1, 2));
    }

    private static void refusedShips() {
        refused("ship(0, 2, 3, 4, 5)", Checks.BAD, desk -> desk.ship(0, 2, 3, 4, 5));
        refused("ship(100, 2, 3, 4, 5)", Checks.BAD, desk -> desk.ship(100, 2, 3, 4, 5));
        refused("ship(1, 0, 3, 4, 5)", Checks.BAD, desk -> desk.ship(1, 0, 3, 4, 5));
        refused("ship(1, 21, 3, 4, 5)", Checks.BAD, desk -> desk.ship(1, 21, 3, 4, 5));
        refused("ship(1, 2, 0, 4, 5)", Checks.BAD, desk -> desk.ship(1, 2, 0, 4, 5));
        refused("ship(1, 2, 100, 4, 5)", Checks.BAD, desk -> desk.ship(1, 2, 100, 4, 5));
        refused("ship(1, 2, 3, -1, 5)", Checks.BAD, desk -> desk.ship(1, 2, 3, -1, 5));
        refused("ship(1, 2, 3, 8, 5)", Checks.BAD, desk -> desk.ship(1, 2, 3, 8, 5));
        refused("ship(1, 2, 3, 4, -1)", Checks.BAD, desk -> desk.ship(1, 2, 3, 4, -1));
        refused("ship(1, 2, 3, 4, 1000)", Checks.BAD, desk -> desk.ship(1, 2, 3, 4, 1000));
    }

    private static void refusedCargoes() {
        refused("cargo(0, 2, 3, 4, 5, 6)", Checks.BAD, desk -> desk.cargo(0, 2, 3, 4, 5, 6));
        refused("cargo(100, 2, 3, 4, 5, 6)", Checks.BAD, desk -> desk.cargo(100, 2, 3, 4, 5, 6));
        refused("cargo(1, -1, 3, 4, 5, 6)", Checks.BAD, desk -> desk.cargo(1, -1, 3, 4, 5, 6));
        refused("cargo(1, 8, 3, 4, 5, 6)", Checks.BAD, desk -> desk.cargo(1, 8, 3, 4, 5, 6));
        refused("cargo(1, 2, -1, 4, 5, 6)", Checks.BAD, desk -> desk.cargo(1, 2, -1, 4, 5, 6));
        refused("cargo(1, 2, 8, 4, 5, 6)", Checks.BAD, desk -> desk.cargo(1, 2, 8, 4, 5, 6));
        refused("cargo(1, 2, 2, 4, 5, 6)", Checks.BAD, desk -> desk.cargo(1, 2, 2, 4, 5, 6));
        refused("cargo(1, 2, 3, -1, 5, 6)", Checks.BAD, desk -> desk.cargo(1, 2, 3, -1, 5, 6));
        refused("cargo(1, 2, 3, 1000, 1000, 6)", Checks.BAD, desk -> desk.cargo(1, 2, 3, 1000, 1000, 6));
        refused("cargo(1, 2, 3, 4, 3, 6)", Checks.BAD, desk -> desk.cargo(1, 2, 3, 4, 3, 6));
        refused("cargo(1, 2, 3, 4, 1000, 6)", Checks.BAD, desk -> desk.cargo(1, 2, 3, 4, 1000, 6));
        refused("cargo(1, 2, 3, 4, 5, 0)", Checks.BAD, desk -> desk.cargo(1, 2, 3, 4, 5, 0));
        refused("cargo(1, 2, 3, 4, 5, 100)", Checks.BAD, desk -> desk.cargo(1, 2, 3, 4, 5, 100));
    }

    private static void refusedFixtures() {
        refused("fix(-1, open)", Checks.BAD, desk -> desk.fix(-1, Desks.OPEN_CARGO));
        refused("fix(3, open)", Checks.BAD, desk -> desk.fix(3, Desks.OPEN_CARGO));
        refused("fix(done, -1)", Checks.BAD, desk -> desk.fix(Desks.DONE_SHIP, -1));
        refused("fix(done, 7)", Checks.BAD, desk -> desk.fix(Desks.DONE_SHIP, 7));
        refused("fix(its own one)", Checks.NOT, desk -> desk.fix(Desks.FIXED_SHIP, Desks.FIXED_CARGO));
        refused("fix(another's)", Checks.NOT, desk -> desk.fix(Desks.DONE_SHIP, Desks.FIXED_CARGO));
        refused("fix(settled)", Checks.NOT, desk -> desk.fix(Desks.DONE_SHIP, Desks.SETTLED_CARGO));
        refused("fix(cancelled)", Checks.NOT, desk -> desk.fix(Desks.DONE_SHIP, Desks.CANCELLED_CARGO));
        refused("fix(too great)", Checks.NOT, desk -> desk.fix(Desks.IDLE_SHIP, Desks.TOO_GREAT_CARGO));
        refused("fix(too late)", Checks.NOT, desk -> desk.fix(Desks.IDLE_SHIP, Desks.TOO_LATE_CARGO));
        refused("delay(-1, 1)", Checks.BAD, desk -> desk.delay(-1, 1));
        refused("delay(3, 1)", Checks.BAD, desk -> desk.delay(3, 1));
        refused("delay(0, 0)", Checks.BAD, desk -> desk.delay(0, 0));
        refused("delay(0, 100)", Checks.BAD, desk -> desk.delay(0, 100));
        refused("callOff(-1)", Checks.BAD, desk -> desk.callOff(-1));
        refused("callOff(3)", Checks.BAD, desk -> desk.callOff(3));
        refused("callOff(idle)", Checks.NOT, desk -> desk.callOff(Desks.IDLE_SHIP));
        refused("callOff(done)", Checks.NOT, desk -> desk.callOff(Desks.DONE_SHIP));
        refused("settle(-1)", Checks.BAD, desk -> desk.settle(-1));
        refused("settle(3)", Checks.BAD, desk -> desk.settle(3));
        refused("settle(idle)", Checks.NOT, desk -> desk.settle(Desks.IDLE_SHIP));
        refused("settle(done)", Checks.NOT, desk -> desk.settle(Desks.DONE_SHIP));
    }

    private static void refusedQuestions() {
        refused("shipOf(3, 0)", Checks.BAD, desk -> desk.shipOf(3, 0));
        refused("shipOf(0, 10)", Checks.BAD, desk -> desk.shipOf(0, 10));
        refused("cargoOf(7, 0)", Checks.BAD, desk -> desk.cargoOf(7, 0));
        refused("cargoOf(open, 7)", Checks.NONE, desk -> desk.cargoOf(Desks.OPEN_CARGO, 7));
        refused("fixtureOf(0, -1, 0)", Checks.BAD, desk -> desk.fixtureOf(0, -1, 0));
        refused("fixtureOf(0, 2, 0)", Checks.NONE, desk -> desk.fixtureOf(0, 2, 0));
        refused("distance(8, 0)", Checks.BAD, desk -> desk.distance(8, 0));
        refused("voyage(0, 0, 5)", Checks.BAD, desk -> desk.voyage(0, 0, 5));
        refused("bestCargo(3)", Checks.BAD, desk -> desk.bestCargo(3));
        refused("bestCargo(idle)", Checks.NONE, desk -> desk.bestCargo(Desks.IDLE_SHIP));
        refused("bestShip(7)", Checks.BAD, desk -> desk.bestShip(7));
        refused("bestShip(fixed)", Checks.NOT, desk -> desk.bestShip(Desks.FIXED_CARGO));
        refused("bestShip(too late)", Checks.NONE, desk -> desk.bestShip(Desks.TOO_LATE_CARGO));
        refused("plan(4)", Checks.BAD, desk -> desk.plan(4));
        refused("slack(3)", Checks.BAD, desk -> desk.slack(3));
        refused("slack(idle)", Checks.NONE, desk -> desk.slack(Desks.IDLE_SHIP));
        refused("count(9)", Checks.BAD, desk -> desk.count(9));
        refused("type(31)", Checks.BAD, desk -> desk.type(31));
        refused("type(127)", Checks.BAD, desk -> desk.type(127));
        refused("fault(3)", Checks.BAD, desk -> desk.fault(3));
        // its first order is sound and would delay ship 1
        refused("play()", Checks.NOT, desk -> desk.play());
    }

    private static void onAFullDesk() {
        refused("a sixth ship", Checks.LIMIT, desk -> desk.ship(1, 2, 3, 4, 5));
        refused("an eleventh cargo", Checks.LIMIT, desk -> desk.cargo(1, 2, 3, 4, 5, 6));
        refused("delay(0, 1)", Checks.LIMIT, desk -> desk.delay(0, 1));
        refused("delay(0, 99)", Checks.LIMIT, desk -> desk.delay(0, 99));
        refused("type(32)", Checks.LIMIT, desk -> desk.type(32));
        refused("type(126)", Checks.LIMIT, desk -> desk.type(126));
        refused("play()", Checks.NOT, desk -> desk.play());
        refused("fix(0, 0)", Checks.NOT, desk -> desk.fix(0, 0));
        refused("port(0, 1, 2)", Checks.NOT, desk -> desk.port(0, 1, 2));
        tryAll("a full desk", Desks::full);
    }

    private static void onADeskWithASoundText() {
        refused("fault(0)", Checks.NONE, desk -> desk.fault(0));
        refused("fault(1)", Checks.NONE, desk -> desk.fault(1));
        refused("fault(2)", Checks.NONE, desk -> desk.fault(2));
        refused("fault(-1)", Checks.BAD, desk -> desk.fault(-1));
        tryAll("a desk with a sound text", NoChangeTest::withASoundText);
    }

    private static ShipFixtures withASoundText() {
        ShipFixtures desk = Desks.busy();
        Checks.write(desk, "s1,2,3,4,5;c1,2,3,4,5,6;f2,3;d0,99;d1,1;");
        return desk;
    }

    private static void questionsChangeNothing() {
        for (int undos = 0; undos <= MOST_STATES; undos++) {
            ShipFixtures desk = Desks.busy();
            ShipFixtures twin = Desks.busy();
            Answers.of(desk);
            for (int k = 0; k < undos; k++) {
                Checks.due("undo()", desk.undo(), twin.undo());
            }
            Answers.alike("asked, behind " + undos + " undos", desk, twin);
        }
        ShipFixtures desk = Desks.busy();
        Answers.due("asked twice", Answers.of(desk), Answers.of(desk));
    }

    /** As many refused calls as a desk may get leave it as it was. */
    private static void manyRefusedCalls() {
        ShipFixtures desk = Desks.busy();
        for (int k = 0; k < 50; k++) {
            desk.port(0, 1, 2);
            desk.ship(0, 0, 0, 0, 0);
            desk.fix(0, 0);
            desk.settle(Desks.IDLE_SHIP);
            desk.play();
        }
        Answers.alike("refused for long", desk, Desks.busy());
    }
}
