import java.util.ArrayDeque;
import java.util.ArrayList;
import java.util.Deque;
import java.util.HashSet;
import java.util.List;
import java.util.Set;
import java.util.regex.Matcher;
import java.util.regex.Pattern;

/**
 * The document a second time, with the Java library and by other ways than the program's, so that both hardly share
 * a slip: slack is tried day by day, orders are read by patterns, states are copied whole, a call that fails is undone.
 */
final class Model {
    private static final int BAD = -1000001;
    private static final int NOT = -1000002;
    private static final int LIMIT = -1000003;
    private static final int NONE = -1000004;
    private static final String NUMBER = "([0-9]{1,3})";
    private static final Pattern ORDER = Pattern.compile(
            "s" + (NUMBER + ",").repeat(4) + NUMBER + ";|c" + (NUMBER + ",").repeat(5) + NUMBER + ";|[fd]"
            + NUMBER + "," + NUMBER + ";");

    private record Place(int x, int y) { }

    private record Cargo(int amount, int loads, int unloads, int first, int last, int freight, int state, int ship) {
        Cargo with(int newState, int newShip) {
            return new Cargo(amount, loads, unloads, first, last, freight, newState, newShip);
        }
    }

    private record Ship(int size, int speed, int cost, int port, int day, int account, List<Integer> fixtures) {
        Ship with(int newPort, int newDay, int newAccount, List<Integer> newFixtures) {
            return new Ship(size, speed, cost, newPort, newDay, newAccount, newFixtures);
        }
    }

    private record Voyage(int from, int arrival, int loading, int free, int port, int earns, boolean late) { }

    private record State(List<Place> ports, List<Ship> ships, List<Cargo> cargoes, int cancelled, int calledOff) {
        State copy() {
            return new State(new ArrayList<>(ports), new ArrayList<>(ships), new ArrayList<>(cargoes),
                    cancelled, calledOff);
        }
    }

    private record Fault(int position, int reason, int cause) { }

    private State now;
    private final Deque<State> history = new ArrayDeque<>();
    private final StringBuilder text = new StringBuilder();

    Model() {
        List<Place> ports = new ArrayList<>();
        for (int k = 0; k < 8; k++) {
            ports.add(new Place(10 * k, 5 * (k % 3)));
        }
        now = new State(ports, new ArrayList<>(), new ArrayList<>(), 0, 0);
    }

    private static boolean error(int answer) {
        return answer == BAD || answer == NOT || answer == LIMIT || answer == NONE;
    }

    private static boolean out(int number, int least, int most) {
        return number < least || number > most;
    }

    private boolean noShip(int ship) {
        return out(ship, 0, now.ships.size() - 1);
    }

    private boolean noCargo(int cargo) {
        return out(cargo, 0, now.cargoes.size() - 1);
    }

    /** Does a change by its name, and takes care of the history. */
    int change(String name, int... n) {
        State before = now.copy();
        int answer = order(name, n);
        if (error(answer)) {
            now = before;
            return answer;
        }
        remember(before);
        return answer;
    }

    private void remember(State before) {
        history.addLast(before);
        if (history.size() > 4) {
            history.removeFirst();
        }
    }

    private int order(String name, int... n) {
        switch (name) {
            case "port": return port(n[0], n[1], n[2]);
            case "s": return ship(n[0], n[1], n[2], n[3], n[4]);
            case "c": return cargo(n[0], n[1], n[2], n[3], n[4], n[5]);
            case "f": return fix(n[0], n[1]);
            case "d": return delay(n[0], n[1]);
            case "callOff": return callOff(n[0]);
            default: return settle(n[0]);
        }
    }

    private int port(int port, int x, int y) {
        if (out(port, 0, 7) || out(x, 0, 99) || out(y, 0, 99)) {
            return BAD;
        }
        if (now.cargoes.stream().anyMatch(c -> c.state == 1)) {
            return NOT;
        }
        Place was = now.ports.set(port, new Place(x, y));
        return was.x * 100 + was.y;
    }

    private int ship(int size, int speed, int cost, int port, int day) {
        if (out(size, 1, 99) || out(speed, 1, 20) || out(cost, 1, 99) || out(port, 0, 7) || out(day, 0, 999)) {
            return BAD;
        }
        if (now.ships.size() == 5) {
            return LIMIT;
        }
        now.ships.add(new Ship(size, speed, cost, port, day, 0, List.of()));
        return now.ships.size() - 1;
    }

    private int cargo(int amount, int loads, int unloads, int first, int last, int freight) {
        if (out(amount, 1, 99) || out(loads, 0, 7) || out(unloads, 0, 7) || loads == unloads
                || out(first, 0, 999) || out(last, 0, 999) || last < first || out(freight, 1, 99)) {
            return BAD;
        }
        if (now.cargoes.size() == 10) {
            return LIMIT;
        }
        now.cargoes.add(new Cargo(amount, loads, unloads, first, last, freight, 0, -1));
        return now.cargoes.size() - 1;
    }

    int distance(int one, int other) {
        if (out(one, 0, 7) || out(other, 0, 7)) {
            return BAD;
        }
        Place a = now.ports.get(one);
        Place b = now.ports.get(other);
        return 10 * (Math.abs(a.x - b.x) + Math.abs(a.y - b.y));
    }

    private int sailing(Ship ship, int one, int other) {
        return (int) Math.ceil(distance(one, other) / (24.0 * ship.speed));
    }

    private Voyage voyage(Ship ship, Cargo cargo, int port, int day) {
        int arrival = day + sailing(ship, port, cargo.loads);
        int loading = arrival < cargo.first ? cargo.first : arrival;
        int free = loading + 4 + sailing(ship, cargo.loads, cargo.unloads);
        int earns = cargo.amount * cargo.freight - (free - day) * ship.cost;
        return new Voyage(day, arrival, loading, free, cargo.unloads, earns, arrival > cargo.last);
    }

    /** The voyages of all fixtures of a ship, if it left its first port later. */
    private List<Voyage> voyages(Ship ship, int later) {
        List<Voyage> all = new ArrayList<>();
        int port = ship.port;
        int day = ship.day + later;
        for (int cargo : ship.fixtures) {
            Voyage next = voyage(ship, now.cargoes.get(cargo), port, day);
            all.add(next);
            port = next.port;
            day = next.free;
        }
        return all;
    }

    private Voyage wouldBe(int ship, int cargo) {
        Ship it = now.ships.get(ship);
        List<Voyage> all = voyages(it, 0);
        boolean none = all.isEmpty();
        Voyage end = none ? null : all.get(all.size() - 1);
        return voyage(it, now.cargoes.get(cargo), none ? it.port : end.port, none ? it.day : end.free);
    }

    private int hindrance(int ship, int cargo) {
        if (now.cargoes.get(cargo).amount > now.ships.get(ship).size) {
            return 1;
        }
        return wouldBe(ship, cargo).late ? 2 : 0;
    }

    private int fix(int ship, int cargo) {
        if (noShip(ship) || noCargo(cargo)) {
            return BAD;
        }
        if (now.cargoes.get(cargo).state != 0 || hindrance(ship, cargo) != 0) {
            return NOT;
        }
        int free = wouldBe(ship, cargo).free;
        Ship it = now.ships.get(ship);
        List<Integer> longer = new ArrayList<>(it.fixtures);
        longer.add(cargo);
        now.ships.set(ship, it.with(it.port, it.day, it.account, List.copyOf(longer)));
        now.cargoes.set(cargo, now.cargoes.get(cargo).with(1, ship));
        return free;
    }

    private int delay(int ship, int days) {
        if (noShip(ship) || out(days, 1, 99)) {
            return BAD;
        }
        Ship it = now.ships.get(ship);
        if (it.day + days > 1999) {
            return LIMIT;
        }
        List<Voyage> all = voyages(it, days);
        int kept = 0;
        while (kept < all.size() && !all.get(kept).late) {
            kept++;
        }
        for (int cargo : it.fixtures.subList(kept, all.size())) {
            now.cargoes.set(cargo, now.cargoes.get(cargo).with(2, -1));
        }
        now.ships.set(ship, it.with(it.port, it.day + days, it.account, List.copyOf(it.fixtures.subList(0, kept))));
        int lost = all.size() - kept;
        now = new State(now.ports, now.ships, now.cargoes, now.cancelled + lost, now.calledOff);
        return lost;
    }

    private int callOff(int ship) {
        if (noShip(ship)) {
            return BAD;
        }
        Ship it = now.ships.get(ship);
        if (it.fixtures.isEmpty()) {
            return NOT;
        }
        int last = it.fixtures.size() - 1;
        Cargo cargo = now.cargoes.get(it.fixtures.get(last));
        int pays = (int) Math.ceil(cargo.amount * cargo.freight / 10.0);
        now.cargoes.set(it.fixtures.get(last), cargo.with(0, -1));
        now.ships.set(ship, it.with(it.port, it.day, it.account - pays, List.copyOf(it.fixtures.subList(0, last))));
        now = new State(now.ports, now.ships, now.cargoes, now.cancelled, now.calledOff + 1);
        return pays;
    }

    private int settle(int ship) {
        if (noShip(ship)) {
            return BAD;
        }
        Ship it = now.ships.get(ship);
        if (it.fixtures.isEmpty()) {
            return NOT;
        }
        int sum = earned(it);
        List<Voyage> all = voyages(it, 0);
        Voyage end = all.get(all.size() - 1);
        for (int cargo : it.fixtures) {
            now.cargoes.set(cargo, now.cargoes.get(cargo).with(2, -1));
        }
        now.ships.set(ship, it.with(end.port, end.free, it.account + sum, List.of()));
        return sum + 1000000;
    }

    private int earned(Ship ship) {
        return voyages(ship, 0).stream().mapToInt(v -> v.earns).sum();
    }

    int shipOf(int ship, int what) {
        if (noShip(ship) || out(what, 0, 9)) {
            return BAD;
        }
        Ship it = now.ships.get(ship);
        List<Voyage> all = voyages(it, 0);
        Voyage end = all.isEmpty() ? new Voyage(0, 0, 0, it.day, it.port, 0, false) : all.get(all.size() - 1);
        int[] answers = {it.size, it.speed, it.cost, end.port, end.free, it.port, it.day, all.size(),
            it.account + 1000000, earned(it) + 1000000};
        return answers[what];
    }

    int cargoOf(int cargo, int what) {
        if (noCargo(cargo) || out(what, 0, 7)) {
            return BAD;
        }
        Cargo it = now.cargoes.get(cargo);
        int[] answers = {it.amount, it.loads, it.unloads, it.first, it.last, it.freight, it.state,
            it.state == 1 ? it.ship : NONE};
        return answers[what];
    }

    int fixtureOf(int ship, int place, int what) {
        if (noShip(ship) || place < 0 || out(what, 0, 5)) {
            return BAD;
        }
        Ship it = now.ships.get(ship);
        if (place >= it.fixtures.size()) {
            return NONE;
        }
        Voyage at = voyages(it, 0).get(place);
        int cargo = it.fixtures.get(place);
        int[] answers = {cargo, at.arrival, at.loading, at.free, at.earns + 1000000,
            now.cargoes.get(cargo).last - at.arrival};
        return answers[what];
    }

    int voyage(int ship, int cargo, int what) {
        if (noShip(ship) || noCargo(cargo) || out(what, 0, 4)) {
            return BAD;
        }
        Voyage it = wouldBe(ship, cargo);
        int days = it.free - it.from;
        int[] answers = {hindrance(ship, cargo), it.loading, days, it.earns + 1000000,
            Float.floatToIntBits((float) it.earns / (float) days)};
        return answers[what];
    }

    private boolean canFix(int ship, int cargo) {
        return now.cargoes.get(cargo).state == 0 && hindrance(ship, cargo) == 0;
    }

    int bestCargo(int ship) {
        if (noShip(ship)) {
            return BAD;
        }
        int best = NONE;
        for (int c = now.cargoes.size() - 1; c >= 0; c--) {
            if (canFix(ship, c) && (best < 0 || wouldBe(ship, c).earns >= wouldBe(ship, best).earns)) {
                best = c;
            }
        }
        return best;
    }

    int bestShip(int cargo) {
        if (noCargo(cargo)) {
            return BAD;
        }
        if (now.cargoes.get(cargo).state != 0) {
            return NOT;
        }
        int best = NONE;
        for (int s = now.ships.size() - 1; s >= 0; s--) {
            if (canFix(s, cargo) && (best < 0 || wouldBe(s, cargo).earns >= wouldBe(best, cargo).earns)) {
                best = s;
            }
        }
        return best;
    }

    int plan(int what) {
        if (out(what, 0, 3)) {
            return BAD;
        }
        State before = now;
        now = now.copy();
        int fixtures = 0;
        int sum = 0;
        Set<String> pairs = new HashSet<>();
        for (int[] best = bestPair(); best != null; best = bestPair()) {
            fixtures++;
            sum += wouldBe(best[0], best[1]).earns;
            Cargo cargo = now.cargoes.get(best[1]);
            pairs.add(cargo.loads + ">" + cargo.unloads);
            fix(best[0], best[1]);
        }
        int open = 0;
        for (int c = 0; c < now.cargoes.size(); c++) {
            open += now.cargoes.get(c).state == 0 ? (int) Math.pow(2, c) : 0;
        }
        now = before;
        return new int[] {fixtures, sum, open, pairs.size()}[what];
    }

    private int[] bestPair() {
        int[] best = null;
        int most = 0;
        for (int s = 0; s < now.ships.size(); s++) {
            for (int c = 0; c < now.cargoes.size(); c++) {
                if (canFix(s, c) && wouldBe(s, c).earns > most) {
                    most = wouldBe(s, c).earns;
                    best = new int[] {s, c};
                }
            }
        }
        return best;
    }

    int slack(int ship) {
        if (noShip(ship)) {
            return BAD;
        }
        Ship it = now.ships.get(ship);
        if (it.fixtures.isEmpty()) {
            return NONE;
        }
        int later = 0;
        while (voyages(it, later + 1).stream().noneMatch(v -> v.late)) {
            later++;
        }
        return later;
    }

    int count(int what) {
        if (out(what, 0, 8)) {
            return BAD;
        }
        int open = 0;
        int fixed = 0;
        for (Cargo cargo : now.cargoes) {
            open += cargo.state == 0 ? 1 : 0;
            fixed += cargo.state == 1 ? 1 : 0;
        }
        int accounts = now.ships.stream().mapToInt(s -> s.account).sum() + 1000000;
        return new int[] {now.ships.size(), now.cargoes.size(), open, fixed, accounts, now.cancelled,
            now.calledOff, history.size(), text.length()}[what];
    }

    int undo() {
        if (history.isEmpty()) {
            return NOT;
        }
        now = history.removeLast();
        return history.size();
    }

    int type(int character) {
        if (out(character, 32, 126)) {
            return BAD;
        }
        if (text.length() == 60) {
            return LIMIT;
        }
        return text.append((char) character).length();
    }

    int clearText() {
        int length = text.length();
        text.setLength(0);
        return length;
    }

    /** Does the orders on the present state, and answers the fault or, if there is none, null. */
    private Fault doOrders(int[] done) {
        int at = 0;
        while (at < text.length()) {
            String rest = text.substring(at);
            Matcher order = ORDER.matcher(rest);
            if (!order.lookingAt()) {
                return new Fault(at, 1, breaksOff(rest));
            }
            List<Integer> numbers = new ArrayList<>();
            for (String number : order.group().replaceAll("[a-z;]", "").split(",")) {
                numbers.add(Integer.parseInt(number));
            }
            int answer = order(rest.substring(0, 1), numbers.stream().mapToInt(n -> n).toArray());
            if (error(answer)) {
                return new Fault(at, 2, answer);
            }
            at += order.end();
            done[0]++;
        }
        return null;
    }

    /** How long the longest beginning is that some order has too. */
    private static int breaksOff(String rest) {
        for (int length = rest.length(); length > 0; length--) {
            Matcher begun = ORDER.matcher(rest.substring(0, length));
            if (begun.matches() || begun.hitEnd()) {
                return length;
            }
        }
        return 0;
    }

    int fault(int what) {
        if (out(what, 0, 2)) {
            return BAD;
        }
        State before = now;
        now = now.copy();
        Fault fault = doOrders(new int[1]);
        now = before;
        return fault == null ? NONE : new int[] {fault.position, fault.reason, fault.cause}[what];
    }

    int play() {
        State before = now;
        now = now.copy();
        int[] done = new int[1];
        if (doOrders(done) != null) {
            now = before;
            return NOT;
        }
        remember(before);
        return done[0];
    }
}
