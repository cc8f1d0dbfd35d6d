/** A desk for ships and cargoes. What each call answers is said by the numbered promises of DOC.md. */
public final class ShipFixtures {
    public static final int INVALID_ARGUMENT = -1000001;
    public static final int NOT_POSSIBLE = -1000002;
    public static final int LIMIT_REACHED = -1000003;
    public static final int NOT_FOUND = -1000004;

    private static final int PORTS = 8;
    private static final int MOST_SHIPS = 5;
    private static final int MOST_CARGOES = 10;
    private static final int MOST_STATES = 4;
    private static final int MOST_CHARACTERS = 60;
    private static final int MOST_NUMBERS = 6;
    private static final int MOST_DIGITS = 3;
    private static final int LATEST_LEAVING = 1999;
    private static final int HANDLING_DAYS = 2;
    private static final int HOURS = 24;

    private static final int OPEN = 0;
    private static final int FIXED = 1;
    private static final int GONE = 2;

    private static final int TOO_GREAT = 1;
    private static final int TOO_LATE = 2;

    private static final int BAD_FORM = 1;
    private static final int BAD_CALL = 2;

    private static final int SIGN_OF_A_FLOAT = 1 << 31;

    /** Sums that may be negative are answered with this added, which keeps them clear of the error codes. */
    private static final int OFFSET = 1000000;

    private final Desk desk = new Desk();
    /** Where changes, plans and orders are tried out, so that whatever fails has changed nothing. */
    private final Desk trial = new Desk();
    private final History history = new History();
    private final Script script = new Script();
    private final Finding finding = new Finding();

    public ShipFixtures() {
    }

    // ---- ports, ships, cargoes

    public int port(int port, int x, int y) {
        return keep(freshTrial().movePort(port, x, y));
    }

    public int ship(int size, int speed, int cost, int port, int day) {
        return keep(freshTrial().addShip(size, speed, cost, port, day));
    }

    public int cargo(int amount, int loads, int unloads, int first, int last, int freight) {
        return keep(freshTrial().addCargo(amount, loads, unloads, first, last, freight));
    }

    // ---- fixtures

    public int fix(int ship, int cargo) {
        return keep(freshTrial().fixShip(ship, cargo));
    }

    public int delay(int ship, int days) {
        return keep(freshTrial().delayShip(ship, days));
    }

    public int callOff(int ship) {
        return keep(freshTrial().callOffLast(ship));
    }

    public int settle(int ship) {
        return keep(freshTrial().settleShip(ship));
    }

    // ---- what there is

    public int shipOf(int ship, int what) {
        if (!desk.isShip(ship)) {
            return INVALID_ARGUMENT;
        }
        Ship it = desk.ships[ship];
        switch (what) {
            case 0: return it.size;
            case 1: return it.speed;
            case 2: return it.cost;
            case 3: return desk.followAll(ship).port;
            case 4: return desk.followAll(ship).day;
            case 5: return it.firstPort;
            case 6: return it.firstDay;
            case 7: return it.fixtureCount;
            case 8: return it.account + OFFSET;
            case 9: return desk.followAll(ship).earnsTogether + OFFSET;
            default: return INVALID_ARGUMENT;
        }
    }

    public int cargoOf(int cargo, int what) {
        if (!desk.isCargo(cargo)) {
            return INVALID_ARGUMENT;
        }
        Cargo it = desk.cargoes[cargo];
        switch (what) {
            case 0: return it.amount;
            case 1: return it.loads;
            case 2: return it.unloads;
            case 3: return it.first;
            case 4: return it.last;
            case 5: return it.freight;
            case 6: return it.state;
            case 7: return it.state == FIXED ? it.ship : NOT_FOUND;
            default: return INVALID_ARGUMENT;
        }
    }

    public int fixtureOf(int ship, int place, int what) {
        if (!desk.isShip(ship) || place < 0 || !isIn(what, 0, 5)) {
            return INVALID_ARGUMENT;
        }
        Ship it = desk.ships[ship];
        if (place >= it.fixtureCount) {
            return NOT_FOUND;
        }
        Course course = desk.follow(ship, place + 1);
        switch (what) {
            case 0: return it.fixtures[place];
            case 1: return course.arrival;
            case 2: return course.loading;
            case 3: return course.day;
            case 4: return course.earns + OFFSET;
            default: return course.margin;
        }
    }

    public int distance(int one, int other) {
        if (!isPort(one) || !isPort(other)) {
            return INVALID_ARGUMENT;
        }
        return desk.between(one, other);
    }

    // ---- what would be

    public int voyage(int ship, int cargo, int what) {
        if (!desk.isShip(ship) || !desk.isCargo(cargo)) {
            return INVALID_ARGUMENT;
        }
        int hindrance = desk.hindrance(ship, cargo);
        Course course = desk.course;
        switch (what) {
            case 0: return hindrance;
            case 1: return course.loading;
            case 2: return course.days;
            case 3: return course.earns + OFFSET;
            case 4: return course.bitsOfEarningsByTheDay();
            default: return INVALID_ARGUMENT;
        }
    }

    public int bestCargo(int ship) {
        if (!desk.isShip(ship)) {
            return INVALID_ARGUMENT;
        }
        return desk.choose(ship, ship + 1, 0, desk.cargoCount) ? desk.chosenCargo : NOT_FOUND;
    }

    public int bestShip(int cargo) {
        if (!desk.isCargo(cargo)) {
            return INVALID_ARGUMENT;
        }
        if (desk.cargoes[cargo].state != OPEN) {
            return NOT_POSSIBLE;
        }
        return desk.choose(0, desk.shipCount, cargo, cargo + 1) ? desk.chosenShip : NOT_FOUND;
    }

    public int plan(int what) {
        if (!isIn(what, 0, 3)) {
            return INVALID_ARGUMENT;
        }
        freshTrial();
        int fixtures = 0;
        int earned = 0;
        long pairs = 0;
        while (fixtures < MOST_CARGOES && trial.chooseGainful()) {
            fixtures++;
            earned += trial.chosenEarns;
            pairs |= trial.pairOf(trial.chosenCargo);
            trial.fixShip(trial.chosenShip, trial.chosenCargo);
        }
        switch (what) {
            case 0: return fixtures;
            case 1: return earned;
            case 2: return trial.openCargoes();
            default: return Long.bitCount(pairs);
        }
    }

    public int slack(int ship) {
        return desk.isShip(ship) ? desk.slackOf(ship) : INVALID_ARGUMENT;
    }

    public int count(int what) {
        switch (what) {
            case 0: return desk.shipCount;
            case 1: return desk.cargoCount;
            case 2: return desk.cargoesThatAre(OPEN);
            case 3: return desk.cargoesThatAre(FIXED);
            case 4: return desk.accountsTogether() + OFFSET;
            case 5: return desk.cancelled;
            case 6: return desk.calledOff;
            case 7: return history.size;
            case 8: return script.length;
            default: return INVALID_ARGUMENT;
        }
    }

    public int undo() {
        return history.restore(desk) ? history.size : NOT_POSSIBLE;
    }

    // ---- texts

    public int type(int character) {
        if (!isIn(character, 32, 126)) {
            return INVALID_ARGUMENT;
        }
        return script.append((char) character) ? script.length : LIMIT_REACHED;
    }

    public int clearText() {
        int length = script.length;
        script.length = 0;
        return length;
    }

    public int fault(int what) {
        if (!isIn(what, 0, 2)) {
            return INVALID_ARGUMENT;
        }
        if (tryOrders()) {
            return NOT_FOUND;
        }
        switch (what) {
            case 0: return finding.position;
            case 1: return finding.reason;
            default: return finding.cause;
        }
    }

    public int play() {
        return tryOrders() ? keep(finding.orders) : NOT_POSSIBLE;
    }

    // ---- trying and keeping

    private Desk freshTrial() {
        trial.copyFrom(desk);
        return trial;
    }

    /** Takes the trial over, as one change, if what was tried answered no error. */
    private int keep(int answer) {
        if (!isError(answer)) {
            history.record(desk);
            desk.copyFrom(trial);
        }
        return answer;
    }

    /** Does the orders of the text on a fresh trial, up to the first one that is not possible; true if all are. */
    private boolean tryOrders() {
        freshTrial();
        finding.orders = 0;
        int start = 0;
        while (start < script.length && finding.orders < MOST_CHARACTERS) {
            if (!script.read(start)) {
                finding.tell(start, BAD_FORM, script.end - start);
                return false;
            }
            int answer = obey(script.kind, script.numbers);
            if (isError(answer)) {
                finding.tell(start, BAD_CALL, answer);
                return false;
            }
            finding.orders++;
            start = script.end;
        }
        return true;
    }

    private int obey(char kind, int[] n) {
        switch (kind) {
            case 's': return trial.addShip(n[0], n[1], n[2], n[3], n[4]);
            case 'c': return trial.addCargo(n[0], n[1], n[2], n[3], n[4], n[5]);
            case 'f': return trial.fixShip(n[0], n[1]);
            case 'd': return trial.delayShip(n[0], n[1]);
            default: return INVALID_ARGUMENT;
        }
    }

    // ---- small helps

    private static boolean isIn(int number, int least, int most) {
        return number >= least && number <= most;
    }

    private static boolean isPort(int port) {
        return isIn(port, 0, PORTS - 1);
    }

    private static boolean isError(int answer) {
        return isIn(answer, NOT_FOUND, INVALID_ARGUMENT);
    }

    /** No divisor here can be below 1; it is tested all the same, as nothing may be divided untested. */
    private static int divideUp(int number, int divisor) {
        return divisor < 1 ? 0 : (number + divisor - 1) / divisor;
    }

    /** A ship. Its fixtures are kept as numbers of cargoes, and reckoned from its first port on when asked for. */
    private static final class Ship {
        int size;
        int speed;
        int cost;
        int firstPort;
        int firstDay;
        int account;
        int fixtureCount;
        final int[] fixtures = new int[MOST_CARGOES];

        void copyFrom(Ship other) {
            size = other.size;
            speed = other.speed;
            cost = other.cost;
            firstPort = other.firstPort;
            firstDay = other.firstDay;
            account = other.account;
            fixtureCount = other.fixtureCount;
            System.arraycopy(other.fixtures, 0, fixtures, 0, MOST_CARGOES);
        }
    }

    /** A cargo. Its ship tells something only while it is fixed. */
    private static final class Cargo {
        int amount;
        int loads;
        int unloads;
        int first;
        int last;
        int freight;
        int state;
        int ship;

        void copyFrom(Cargo other) {
            amount = other.amount;
            loads = other.loads;
            unloads = other.unloads;
            first = other.first;
            last = other.last;
            freight = other.freight;
            state = other.state;
            ship = other.ship;
        }

        int worth() {
            return amount * freight;
        }
    }

    /** A ship followed through voyages: where and from when it is free, and what the latest voyage was like. */
    private static final class Course {
        int port;
        int day;
        int arrival;
        int loading;
        int days;
        int earns;
        int earnsTogether;
        /** By how many days the ship could come later to the port of loading; below 0 it is too late. */
        int margin;

        void begin(Ship ship) {
            port = ship.firstPort;
            day = ship.firstDay;
            earnsTogether = 0;
        }

        int bitsOfEarningsByTheDay() {
            return days < 1 ? 0 : bitsOf((float) earns / (float) days);
        }

        /**
         * The bits of a float below 2 to the 24th, and not so near to 0 that it has fewer than 24 bits of its own:
         * the library's own function for them is not allowed. Doubling a float is exact, so all bits stay.
         */
        private static int bitsOf(float number) {
            int sign = number < 0f ? SIGN_OF_A_FLOAT : 0;
            float rest = number < 0f ? -number : number;
            for (int exponent = 150; exponent > 0; exponent--) {
                if (rest >= 8388608f) {
                    return sign | (exponent << 23) | ((int) rest & 0x7FFFFF);
                }
                rest *= 2f;
            }
            return 0;
        }
    }

    /**
     * Everything that a state of the history holds: ports, ships, cargoes and what was counted.
     * Behind the last ship and the last cargo that have come, the rows hold new ones, nothing set.
     */
    private static final class Desk {
        final int[] x = new int[PORTS];
        final int[] y = new int[PORTS];
        final Ship[] ships = new Ship[MOST_SHIPS];
        final Cargo[] cargoes = new Cargo[MOST_CARGOES];
        int shipCount;
        int cargoCount;
        int cancelled;
        int calledOff;
        /** Used again by all that follows a ship; it holds nothing from one call to the next. */
        final Course course = new Course();
        int chosenShip;
        int chosenCargo;
        int chosenEarns;

        Desk() {
            for (int k = 0; k < PORTS; k++) {
                x[k] = 10 * k;
                y[k] = 5 * (k % 3);
            }
            for (int k = 0; k < MOST_SHIPS; k++) {
                ships[k] = new Ship();
            }
            for (int k = 0; k < MOST_CARGOES; k++) {
                cargoes[k] = new Cargo();
            }
        }

        void copyFrom(Desk other) {
            System.arraycopy(other.x, 0, x, 0, PORTS);
            System.arraycopy(other.y, 0, y, 0, PORTS);
            for (int k = 0; k < MOST_SHIPS; k++) {
                ships[k].copyFrom(other.ships[k]);
            }
            for (int k = 0; k < MOST_CARGOES; k++) {
                cargoes[k].copyFrom(other.cargoes[k]);
            }
            shipCount = other.shipCount;
            cargoCount = other.cargoCount;
            cancelled = other.cancelled;
            calledOff = other.calledOff;
        }

        boolean isShip(int ship) {
            return ship >= 0 && ship < shipCount;
        }

        boolean isCargo(int cargo) {
            return cargo >= 0 && cargo < cargoCount;
        }

        // ---- changes: each answers an error ahead of changing anything

        int movePort(int port, int newX, int newY) {
            if (!isPort(port) || !isIn(newX, 0, 99) || !isIn(newY, 0, 99)) {
                return INVALID_ARGUMENT;
            }
            if (cargoesThatAre(FIXED) > 0) {
                return NOT_POSSIBLE;
            }
            int before = 100 * x[port] + y[port];
            x[port] = newX;
            y[port] = newY;
            return before;
        }

        int addShip(int size, int speed, int cost, int port, int day) {
            if (!isIn(size, 1, 99) || !isIn(speed, 1, 20) || !isIn(cost, 1, 99)
                    || !isPort(port) || !isIn(day, 0, 999)) {
                return INVALID_ARGUMENT;
            }
            if (shipCount >= MOST_SHIPS) {
                return LIMIT_REACHED;
            }
            Ship it = ships[shipCount];
            it.size = size;
            it.speed = speed;
            it.cost = cost;
            it.firstPort = port;
            it.firstDay = day;
            return shipCount++;
        }

        int addCargo(int amount, int loads, int unloads, int first, int last, int freight) {
            if (!isIn(amount, 1, 99) || !isPort(loads) || !isPort(unloads) || loads == unloads
                    || !isIn(first, 0, 999) || !isIn(last, first, 999) || !isIn(freight, 1, 99)) {
                return INVALID_ARGUMENT;
            }
            if (cargoCount >= MOST_CARGOES) {
                return LIMIT_REACHED;
            }
            Cargo it = cargoes[cargoCount];
            it.amount = amount;
            it.loads = loads;
            it.unloads = unloads;
            it.first = first;
            it.last = last;
            it.freight = freight;
            return cargoCount++;
        }

        int fixShip(int ship, int cargo) {
            if (!isShip(ship) || !isCargo(cargo)) {
                return INVALID_ARGUMENT;
            }
            Ship it = ships[ship];
            Cargo its = cargoes[cargo];
            // a ship never has more fixtures than there are cargoes: the index is tested all the same
            if (its.state != OPEN || hindrance(ship, cargo) != 0 || it.fixtureCount >= MOST_CARGOES) {
                return NOT_POSSIBLE;
            }
            it.fixtures[it.fixtureCount] = cargo;
            it.fixtureCount++;
            its.state = FIXED;
            its.ship = ship;
            return course.day;
        }

        int delayShip(int ship, int days) {
            if (!isShip(ship) || !isIn(days, 1, 99)) {
                return INVALID_ARGUMENT;
            }
            Ship it = ships[ship];
            if (it.firstDay + days > LATEST_LEAVING) {
                return LIMIT_REACHED;
            }
            it.firstDay += days;
            int fixturesBefore = it.fixtureCount;
            dropFixtures(it, fixturesInTime(ship), GONE);
            int dropped = fixturesBefore - it.fixtureCount;
            cancelled += dropped;
            return dropped;
        }

        int callOffLast(int ship) {
            if (!isShip(ship)) {
                return INVALID_ARGUMENT;
            }
            Ship it = ships[ship];
            int last = it.fixtureCount - 1;
            if (last < 0 || !isCargo(it.fixtures[last])) {
                return NOT_POSSIBLE;
            }
            int price = divideUp(cargoes[it.fixtures[last]].worth(), 10);
            dropFixtures(it, last, OPEN);
            it.account -= price;
            calledOff++;
            return price;
        }

        int settleShip(int ship) {
            if (!isShip(ship)) {
                return INVALID_ARGUMENT;
            }
            Ship it = ships[ship];
            if (it.fixtureCount == 0) {
                return NOT_POSSIBLE;
            }
            followAll(ship);
            it.account += course.earnsTogether;
            it.firstPort = course.port;
            it.firstDay = course.day;
            dropFixtures(it, 0, GONE);
            return course.earnsTogether + OFFSET;
        }

        /** Takes all fixtures behind the first ones from a ship; their cargoes are in the new state then. */
        private void dropFixtures(Ship ship, int firstOnes, int newState) {
            for (int k = firstOnes; k < ship.fixtureCount; k++) {
                if (isCargo(ship.fixtures[k])) {
                    cargoes[ship.fixtures[k]].state = newState;
                }
            }
            ship.fixtureCount = firstOnes;
        }

        // ---- reckoning

        int between(int one, int other) {
            int acrossX = x[one] - x[other];
            int acrossY = y[one] - y[other];
            return 10 * ((acrossX < 0 ? -acrossX : acrossX) + (acrossY < 0 ? -acrossY : acrossY));
        }

        /** Follows a ship from its first port through its first fixtures. */
        Course follow(int ship, int firstOnes) {
            Ship it = ships[ship];
            course.begin(it);
            for (int k = 0; k < firstOnes && k < it.fixtureCount; k++) {
                sail(it, it.fixtures[k]);
            }
            return course;
        }

        Course followAll(int ship) {
            return follow(ship, MOST_CARGOES);
        }

        /** Takes the course through a voyage, too late or not, from where and when it stands. */
        private void sail(Ship ship, int cargo) {
            if (!isCargo(cargo)) {
                return;
            }
            Cargo it = cargoes[cargo];
            int aDay = HOURS * ship.speed;
            int began = course.day;
            course.arrival = began + divideUp(between(course.port, it.loads), aDay);
            course.margin = it.last - course.arrival;
            course.loading = Math.max(course.arrival, it.first);
            int loaded = course.loading + HANDLING_DAYS;
            course.day = loaded + divideUp(between(it.loads, it.unloads), aDay) + HANDLING_DAYS;
            course.port = it.unloads;
            course.days = course.day - began;
            course.earns = it.worth() - course.days * ship.cost;
            course.earnsTogether += course.earns;
        }

        /** What hinders a ship from a voyage with a cargo, open or not; the course has this voyage then. */
        int hindrance(int ship, int cargo) {
            follow(ship, MOST_CARGOES);
            sail(ships[ship], cargo);
            if (cargoes[cargo].amount > ships[ship].size) {
                return TOO_GREAT;
            }
            return course.margin < 0 ? TOO_LATE : 0;
        }

        /** How many fixtures of a ship stand ahead of the first one that is too late. */
        private int fixturesInTime(int ship) {
            Ship it = ships[ship];
            course.begin(it);
            for (int k = 0; k < it.fixtureCount; k++) {
                sail(it, it.fixtures[k]);
                if (course.margin < 0) {
                    return k;
                }
            }
            return it.fixtureCount;
        }

        /** Days of waiting swallow a delay, so a fixture has, beside its own margin, all the waiting ahead of it. */
        int slackOf(int ship) {
            Ship it = ships[ship];
            int least = NOT_FOUND;
            int waited = 0;
            course.begin(it);
            for (int k = 0; k < it.fixtureCount; k++) {
                sail(it, it.fixtures[k]);
                int own = course.margin + waited;
                least = k == 0 ? own : Math.min(least, own);
                waited += course.loading - course.arrival;
            }
            return least;
        }

        // ---- choosing

        /**
         * Chooses, of the ships and the open cargoes from one number up to another, the pair that could be fixed
         * and would earn most: of several the lowest ship's, of these the lowest cargo's. False if there is none.
         */
        boolean choose(int ship, int shipEnd, int cargo, int cargoEnd) {
            boolean found = false;
            for (int s = ship; s < shipEnd; s++) {
                for (int c = cargo; c < cargoEnd; c++) {
                    if (cargoes[c].state != OPEN || hindrance(s, c) != 0) {
                        continue;
                    }
                    if (!found || course.earns > chosenEarns) {
                        found = true;
                        chosenShip = s;
                        chosenCargo = c;
                        chosenEarns = course.earns;
                    }
                }
            }
            return found;
        }

        boolean chooseGainful() {
            return choose(0, shipCount, 0, cargoCount) && chosenEarns > 0;
        }

        // ---- counting

        int cargoesThatAre(int state) {
            int count = 0;
            for (int k = 0; k < cargoCount; k++) {
                if (cargoes[k].state == state) {
                    count++;
                }
            }
            return count;
        }

        int openCargoes() {
            int set = 0;
            for (int k = 0; k < cargoCount; k++) {
                if (cargoes[k].state == OPEN) {
                    set |= 1 << k;
                }
            }
            return set;
        }

        /** The ports of a cargo as one bit of 64, so that unlike pairs are unlike bits. */
        long pairOf(int cargo) {
            return isCargo(cargo) ? 1L << (PORTS * cargoes[cargo].loads + cargoes[cargo].unloads) : 0L;
        }

        int accountsTogether() {
            int sum = 0;
            for (int k = 0; k < shipCount; k++) {
                sum += ships[k].account;
            }
            return sum;
        }
    }

    /** The latest states, the oldest first. Its desks are made once and written over. */
    private static final class History {
        final Desk[] states = new Desk[MOST_STATES];
        int size;

        History() {
            for (int k = 0; k < MOST_STATES; k++) {
                states[k] = new Desk();
            }
        }

        void record(Desk desk) {
            if (size >= MOST_STATES) {
                dropOldest();
            }
            states[size].copyFrom(desk);
            size++;
        }

        private void dropOldest() {
            Desk oldest = states[0];
            for (int k = 1; k < MOST_STATES; k++) {
                states[k - 1] = states[k];
            }
            states[MOST_STATES - 1] = oldest;
            size = MOST_STATES - 1;
        }

        boolean restore(Desk desk) {
            if (size < 1) {
                return false;
            }
            size--;
            desk.copyFrom(states[size]);
            return true;
        }
    }

    /** The text, and the order that was read from it last. */
    private static final class Script {
        /** Stands for the end of the text: no character that can be typed. */
        private static final char END = (char) 0;

        final char[] characters = new char[MOST_CHARACTERS];
        int length;
        char kind;
        final int[] numbers = new int[MOST_NUMBERS];
        /** Where the order that was read ends, or where it breaks off. */
        int end;

        boolean append(char character) {
            if (length >= MOST_CHARACTERS) {
                return false;
            }
            characters[length] = character;
            length++;
            return true;
        }

        /** Reads the order that starts at a place; false if it breaks off. */
        boolean read(int start) {
            end = start;
            kind = at(end);
            int wanted = numbersOf(kind);
            if (wanted == 0) {
                return false;
            }
            end++;
            for (int k = 0; k < wanted; k++) {
                char mark = k < wanted - 1 ? ',' : ';';
                if (!readNumber(k) || at(end) != mark) {
                    return false;
                }
                end++;
            }
            return true;
        }

        private static int numbersOf(char kind) {
            switch (kind) {
                case 's': return 5;
                case 'c': return 6;
                case 'f': return 2;
                case 'd': return 2;
                default: return 0;
            }
        }

        private boolean readNumber(int k) {
            int number = 0;
            int digits = 0;
            while (digits < MOST_DIGITS && isIn(at(end), '0', '9')) {
                number = 10 * number + at(end) - '0';
                end++;
                digits++;
            }
            numbers[k] = number;
            return digits > 0;
        }

        private char at(int place) {
            return isIn(place, 0, length - 1) ? characters[place] : END;
        }
    }

    /** What trying the orders of the text came to. */
    private static final class Finding {
        int orders;
        int position;
        int reason;
        int cause;

        void tell(int newPosition, int newReason, int newCause) {
            position = newPosition;
            reason = newReason;
            cause = newCause;
        }
    }
}
