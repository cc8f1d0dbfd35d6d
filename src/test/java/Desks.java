/** Desks that several tests begin with, and names for what a busy one holds. */
final class Desks {
    /** In a busy desk: no fixture, small, and too late for cargo 5. */
    static final int IDLE_SHIP = 1;
    /** In a busy desk: the ship of cargoes 0 and 1. */
    static final int FIXED_SHIP = 0;
    /** In a busy desk: has settled a fixture and called one off. */
    static final int DONE_SHIP = 2;
    static final int FIXED_CARGO = 0;
    static final int SETTLED_CARGO = 2;
    static final int OPEN_CARGO = 3;
    static final int TOO_GREAT_CARGO = 4;
    static final int TOO_LATE_CARGO = 5;
    static final int CANCELLED_CARGO = 6;

    private Desks() {
    }

    /** Something of all: a moved port, three ships, cargoes in all states, a full history, a text with a fault. */
    static ShipFixtures busy() {
        ShipFixtures desk = new ShipFixtures();
        Checks.due("port(7, 99, 99)", desk.port(7, 99, 99), 7005);
        Checks.due("ship 0", desk.ship(20, 10, 5, 0, 10), 0);
        Checks.due("ship 1", desk.ship(5, 20, 9, 3, 0), 1);
        Checks.due("ship 2", desk.ship(99, 15, 3, 2, 40), 2);
        Checks.due("cargo 0", desk.cargo(20, 3, 1, 0, 12, 10), 0);
        Checks.due("cargo 1", desk.cargo(15, 2, 7, 30, 90, 9), 1);
        Checks.due("cargo 2", desk.cargo(50, 2, 4, 45, 60, 7), 2);
        Checks.due("cargo 3", desk.cargo(50, 4, 2, 0, 99, 7), 3);
        Checks.due("cargo 4", desk.cargo(6, 3, 0, 0, 999, 80), 4);
        Checks.due("cargo 5", desk.cargo(5, 7, 0, 0, 0, 80), 5);
        Checks.due("cargo 6", desk.cargo(5, 3, 4, 9, 9, 2), 6);
        Checks.due("fix(1, 6)", desk.fix(1, 6), 14);
        Checks.due("delay(1, 99)", desk.delay(1, 99), 1);
        Checks.due("fix(2, 2)", desk.fix(2, 2), 50);
        Checks.due("settle(2)", desk.settle(2), Checks.MILLION + 320);
        Checks.due("fix(2, 3)", desk.fix(2, 3), 55);
        Checks.due("callOff(2)", desk.callOff(2), 35);
        Checks.due("fix(0, 0)", desk.fix(0, 0), 18);
        Checks.due("fix(0, 1)", desk.fix(0, 1), 41);
        Checks.write(desk, "d1,1;f1,4;");
        return desk;
    }

    /** As many ships, cargoes, states and characters as there can be, and ship 0 leaves its first port on 1999. */
    static ShipFixtures full() {
        ShipFixtures desk = new ShipFixtures();
        for (int k = 0; k < 5; k++) {
            Checks.due("ship " + k, desk.ship(20 + k, 10 + k, 5 + k, k, k == 0 ? 999 : 10 * k), k);
        }
        for (int k = 0; k < 10; k++) {
            Checks.due("cargo " + k, desk.cargo(10 + k, k % 8, (k + 1) % 8, 10 * k, 900, 10 + k), k);
        }
        for (int k = 0; k < 10; k++) {
            Checks.due("delay(0, 99)", desk.delay(0, 99), 0);
        }
        Checks.due("delay(0, 10)", desk.delay(0, 10), 0);
        Checks.due("fix(4, 9)", desk.fix(4, 9) > 0 ? 1 : 0, 1);
        Checks.write(desk, "d0,1;d0,1;d0,1;d0,1;d0,1;d0,1;d0,1;d0,1;d0,1;d0,1;d0,1;d0,1;");
        return desk;
    }
}
