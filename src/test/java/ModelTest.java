/** Runs of at most 512 calls, the same at every start, on the program and on Model.java: all answers must be alike. */
public final class ModelTest {
    private static final int RUNS = 3000;
    /** The last text of a run may add a hundred calls and a few, which still keeps the run below 512. */
    private static final int CALLS = 400;

    private long seed;
    private ShipFixtures desk;
    private Model model;
    private int run;
    private int made;
    /** How wide the days of a run are spread: near days make delays cancel, far ones make ships wait. */
    private int spread;

    public static void main(String[] args) {
        ModelTest test = new ModelTest();
        for (int k = 0; k < RUNS; k++) {
            test.runOnce(k);
        }
        Checks.finish("ModelTest");
    }

    private int pick(int bound) {
        seed = seed * 6364136223846793005L + 1442695040888963407L;
        return (int) Math.floorMod(seed >>> 33, (long) bound);
    }

    private void runOnce(int number) {
        seed = number * 7919L + 17;
        run = number;
        made = 0;
        desk = new ShipFixtures();
        model = new Model();
        spread = new int[] {8, 30, 100, 300, 999}[pick(5)];
        while (made < CALLS) {
            int kind = pick(100);
            if (kind < 45) {
                change(pick(100));
            } else if (kind < 90) {
                ask(pick(12));
            } else {
                write();
            }
        }
    }

    private void same(String call, int got, int want) {
        made++;
        Checks.due(got == want ? call : "run " + run + ", call " + made + ": " + call, got, want);
    }

    /** Mostly a number in the range, now and then one at its edges or out of it. */
    private int in(int least, int most) {
        int kind = pick(60);
        switch (kind) {
            case 0: return least - 1;
            case 1: return most + 1;
            case 2: return Checks.WILD[pick(Checks.WILD.length)];
            case 3: case 4: return least;
            case 5: case 6: return most;
            default: return least + pick(most - least + 1);
        }
    }

    private int ship() {
        return in(0, Math.max(0, model.count(0) - 1));
    }

    private int cargo() {
        return in(0, Math.max(0, model.count(1) - 1));
    }

    private int day() {
        return in(0, spread);
    }

    private void change(int kind) {
        if (kind < 4) {
            int port = in(0, 7);
            int x = in(0, 99);
            int y = in(0, 99);
            same("port", desk.port(port, x, y), model.change("port", port, x, y));
        } else if (kind < 12) {
            int[] n = {in(1, 99), in(1, 20), in(1, 99), in(0, 7), day()};
            same("ship", desk.ship(n[0], n[1], n[2], n[3], n[4]), model.change("s", n));
        } else if (kind < 30) {
            int first = day();
            int[] n = {in(1, 99), in(0, 7), in(0, 7), first, Math.min(999, first + pick(spread)), in(1, 99)};
            same("cargo", desk.cargo(n[0], n[1], n[2], n[3], n[4], n[5]), model.change("c", n));
        } else if (kind < 65) {
            int ship = ship();
            int cargo = cargo();
            same("fix", desk.fix(ship, cargo), model.change("f", ship, cargo));
        } else if (kind < 77) {
            int ship = ship();
            int days = pick(3) == 0 ? in(1, 99) : 1 + pick(3);
            same("delay", desk.delay(ship, days), model.change("d", ship, days));
        } else if (kind < 82) {
            int ship = ship();
            same("callOff", desk.callOff(ship), model.change("callOff", ship));
        } else if (kind < 86) {
            int ship = ship();
            same("settle", desk.settle(ship), model.change("settle", ship));
        } else if (kind < 96) {
            same("undo", desk.undo(), model.undo());
        } else {
            same("play", desk.play(), model.play());
        }
    }

    private void ask(int kind) {
        int ship = ship();
        int cargo = cargo();
        int what = in(0, 9);
        int place = in(0, 4);
        switch (kind) {
            case 0: same("shipOf", desk.shipOf(ship, what), model.shipOf(ship, what)); break;
            case 1: same("cargoOf", desk.cargoOf(cargo, what), model.cargoOf(cargo, what)); break;
            case 2: same("fixtureOf", desk.fixtureOf(ship, place, what), model.fixtureOf(ship, place, what)); break;
            case 3: same("distance", desk.distance(ship, cargo), model.distance(ship, cargo)); break;
            case 4: same("voyage", desk.voyage(ship, cargo, what), model.voyage(ship, cargo, what)); break;
            case 5: same("voyage, bits", desk.voyage(ship, cargo, 4), model.voyage(ship, cargo, 4)); break;
            case 6: same("bestCargo", desk.bestCargo(ship), model.bestCargo(ship)); break;
            case 7: same("bestShip", desk.bestShip(cargo), model.bestShip(cargo)); break;
            case 8: same("plan", desk.plan(what % 5), model.plan(what % 5)); break;
            case 9: same("slack", desk.slack(ship), model.slack(ship)); break;
            case 10: same("count", desk.count(what), model.count(what)); break;
            default: same("fault", desk.fault(what % 4), model.fault(what % 4));
        }
    }

    /** Types some orders, now and then with a wrong character, and asks for the fault. */
    private void write() {
        if (pick(3) > 0) {
            same("clearText", desk.clearText(), model.clearText());
        }
        StringBuilder text = new StringBuilder();
        for (int orders = pick(4); orders >= 0; orders--) {
            text.append(order());
        }
        if (pick(4) == 0) {
            text.setCharAt(pick(text.length()), ";,0123456789scfd x".charAt(pick(18)));
        }
        if (pick(8) == 0) {
            text.setLength(pick(text.length()));
        }
        for (int k = 0; k < text.length(); k++) {
            same("type", desk.type(text.charAt(k)), model.type(text.charAt(k)));
        }
        for (int what = 0; what < 3; what++) {
            same("fault", desk.fault(what), model.fault(what));
        }
        same("play", desk.play(), model.play());
    }

    private String order() {
        int first = pick(spread);
        switch (pick(5)) {
            case 0: return join("s", 1 + pick(99), 1 + pick(20), 1 + pick(99), pick(8), first);
            case 1: return join("c", 1 + pick(60), pick(8), pick(8), first, first + pick(spread), 1 + pick(99));
            case 2: return join("d", pick(Math.max(1, model.count(0))), pick(7));
            default: return join("f", pick(Math.max(1, model.count(0))), pick(Math.max(1, model.count(1))));
        }
    }

    private String join(String kind, int... numbers) {
        StringBuilder order = new StringBuilder(kind);
        for (int number : numbers) {
            order.append(order.length() > 1 ? "," : "").append(pick(9) == 0 ? "0" : "").append(number);
        }
        return order.append(";").toString();
    }
}
