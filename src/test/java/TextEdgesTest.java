import java.util.regex.Matcher;
import java.util.regex.Pattern;

/** The sentences of 'Texts' and of the promises 20 to 23, at their edges. */
public final class TextEdgesTest {
    private static final String NUMBER = "[0-9]{1,3}";
    /** The form of an order: told by the library's own patterns, which know by themselves where a text breaks off. */
    private static final Pattern ORDER = Pattern.compile("s" + (NUMBER + ",").repeat(4) + NUMBER + ";"
            + "|c" + (NUMBER + ",").repeat(5) + NUMBER + ";" + "|[fd]" + NUMBER + "," + NUMBER + ";");
    private static final String[] SOUND = {"s1,20,3,4,567;", "c98,7,06,5,432,10;", "f0,0;", "f001,023;", "d2,003;",
        "s099,020,099,007,999;", "c099,007,000,999,999,099;", "d000,099;"};

    public static void main(String[] args) {
        emptyText();
        textUpTo60();
        clearedLengths();
        endedTooEarly();
        anyOtherCharacter();
        anyCharacterMore();
        anyCharacterLess();
        digitsOfANumber();
        formGoesAheadOfTheCall();
        firstFaultOfSeveral();
        positionBehindOrders();
        rangesOfShips();
        rangesOfCargoes();
        rangesOfFixtures();
        rangesOfDelays();
        errorCodesAsTheCallsReturnThem();
        thoseAheadAreDone();
        ordersAreTheCalls();
        playedTextStays();
        longestTextOfOrders();
        endsTooEarlyAt60();
        Checks.finish("TextEdgesTest");
    }

    private static void emptyText() {
        ShipFixtures desk = new ShipFixtures();
        Checks.due("length", desk.count(8), 0);
        Checks.dueFault("the empty text", desk, Checks.NONE, Checks.NONE, Checks.NONE, Checks.BAD);
        Checks.due("play()", desk.play(), 0);
        Checks.due("one change", desk.count(7), 1);
        Checks.due("clearText()", desk.clearText(), 0);
        Checks.due("no change", desk.count(7), 1);
    }

    private static void textUpTo60() {
        ShipFixtures desk = new ShipFixtures();
        for (int length = 1; length <= 60; length++) {
            Checks.due("character " + length, desk.type('s'), length);
            Checks.due("count(8)", desk.count(8), length);
        }
        for (int more = 0; more < 3; more++) {
            Checks.due("character 61", desk.type('s'), Checks.LIMIT);
            Checks.due("count(8)", desk.count(8), 60);
        }
        Checks.due("clearText()", desk.clearText(), 60);
        Checks.due("as if it were new", desk.type('s'), 1);
    }

    private static void clearedLengths() {
        ShipFixtures desk = new ShipFixtures();
        for (int length : new int[] {0, 1, 59, 60}) {
            for (int k = 0; k < length; k++) {
                desk.type('s');
            }
            Checks.due("clearText()", desk.clearText(), length);
            Checks.due("count(8)", desk.count(8), 0);
            Checks.due("clearText() again", desk.clearText(), 0);
        }
    }

    // ---- the form, told by ORDER

    /** Where an order breaks off: behind the longest beginning that could go on to be one; -1 if it is one. */
    private static int breaksOff(String text) {
        int longest = 0;
        for (int length = 1; length <= text.length(); length++) {
            Matcher matcher = ORDER.matcher(text.substring(0, length));
            if (matcher.matches()) {
                return -1;
            }
            if (matcher.hitEnd()) {
                longest = length;
            }
        }
        return longest;
    }

    private static void dueForm(String text) {
        ShipFixtures desk = new ShipFixtures();
        Checks.write(desk, text);
        int cause = breaksOff(text);
        if (cause >= 0) {
            Checks.dueFault(text, desk, 0, 1, cause);
            Checks.due("play() of " + text, desk.play(), Checks.NOT);
        } else {
            Checks.holds(text + " is no fault of form at 0", desk.fault(1) != 1 || desk.fault(0) > 0);
        }
    }

    /** Of one that the text ends too early it is its length. */
    private static void endedTooEarly() {
        for (String order : SOUND) {
            for (int length = 1; length < order.length(); length++) {
                String text = order.substring(0, length);
                ShipFixtures desk = new ShipFixtures();
                Checks.write(desk, text);
                Checks.dueFault(text, desk, 0, 1, length);
                Checks.due("play() of " + text, desk.play(), Checks.NOT);
            }
        }
    }

    private static void anyOtherCharacter() {
        for (String order : SOUND) {
            for (int place = 0; place < order.length(); place++) {
                for (char other = 32; other <= 126; other++) {
                    dueForm(order.substring(0, place) + other + order.substring(place + 1));
                }
            }
        }
    }

    private static void anyCharacterMore() {
        for (String order : SOUND) {
            for (int place = 0; place < order.length(); place++) {
                for (char more = 32; more <= 126; more++) {
                    dueForm(order.substring(0, place) + more + order.substring(place));
                }
            }
        }
    }

    private static void anyCharacterLess() {
        for (String order : SOUND) {
            for (int place = 0; place < order.length() - 1; place++) {
                dueForm(order.substring(0, place) + order.substring(place + 1));
            }
        }
    }

    /** Numbers of 1 to 3 digits, 0 ahead allowed: each number of each order with none to 4 digits. */
    private static void digitsOfANumber() {
        String[] digits = {"", "1", "01", "001", "0001"};
        for (String kind : new String[] {"s5", "c6", "f2", "d2"}) {
            int numbers = kind.charAt(1) - '0';
            for (int wide = 0; wide < numbers; wide++) {
                for (String number : digits) {
                    StringBuilder text = new StringBuilder(kind.substring(0, 1));
                    for (int k = 0; k < numbers; k++) {
                        text.append(k == wide ? number : "1").append(k < numbers - 1 ? ',' : ';');
                    }
                    ShipFixtures desk = new ShipFixtures();
                    Checks.write(desk, text.toString());
                    int broken = number.isEmpty() ? 1 + 2 * wide : 1 + 2 * wide + 3;
                    boolean sound = number.length() >= 1 && number.length() <= 3;
                    if (sound) {
                        Checks.holds(text + " is of the form", desk.fault(1) != 1);
                    } else {
                        Checks.dueFault(text.toString(), desk, 0, 1, broken);
                    }
                }
            }
        }
    }

    // ---- faults

    private static void fault(ShipFixtures desk, String text, int position, int reason, int cause) {
        Checks.write(desk, text);
        Checks.dueFault(text, desk, position, reason, cause);
        Checks.due("play() of " + text, desk.play(), Checks.NOT);
    }

    private static void sound(ShipFixtures desk, String text, int orders) {
        Checks.write(desk, text);
        Checks.dueFault(text, desk, Checks.NONE, Checks.NONE, Checks.NONE);
        Checks.due("play() of " + text, desk.play(), orders);
    }

    /** What is not of the form has the reason 1, even if the call would return an error. */
    private static void formGoesAheadOfTheCall() {
        fault(new ShipFixtures(), "s0,1,1,1,1", 0, 1, 10);
        fault(new ShipFixtures(), "s0,1,1,1,1;", 0, 2, Checks.BAD);
        fault(new ShipFixtures(), "f9,9", 0, 1, 4);
        fault(new ShipFixtures(), "f9,9:", 0, 1, 4);
        fault(new ShipFixtures(), "f9,9;", 0, 2, Checks.BAD);
        fault(new ShipFixtures(), "d0,1000;", 0, 1, 6);
        fault(new ShipFixtures(), "d0,999;", 0, 2, Checks.BAD);
        fault(new ShipFixtures(), "c1,1,1,0,0,1,", 0, 1, 12);
        fault(new ShipFixtures(), "c1,1,1,0,0,1;", 0, 2, Checks.BAD);
    }

    /** The first order that is not possible counts, whatever is wrong with those behind it. */
    private static void firstFaultOfSeveral() {
        fault(new ShipFixtures(), "d0,1;x", 0, 2, Checks.BAD);
        fault(new ShipFixtures(), "xd0,1;", 0, 1, 0);
        fault(new ShipFixtures(), "s1,1,1,1,1;d1,1;x", 11, 2, Checks.BAD);
        fault(new ShipFixtures(), "s1,1,1,1,1;x;d1,1;", 11, 1, 0);
        fault(new ShipFixtures(), "s1,1,1,1,1;d0,1;d0,0;d0,1", 16, 2, Checks.BAD);
        fault(new ShipFixtures(), "s1,1,1,1,1;d0,1;d0,1", 16, 1, 4);
    }

    /** The position counts from the text's beginning, the cause from the order's. */
    private static void positionBehindOrders() {
        StringBuilder ahead = new StringBuilder("s1,1,1,1,1;");
        for (int orders = 1; orders <= 8; orders++) {
            fault(new ShipFixtures(), ahead + "?", ahead.length(), 1, 0);
            fault(new ShipFixtures(), ahead + "d0", ahead.length(), 1, 2);
            fault(new ShipFixtures(), ahead + "d9,1;", ahead.length(), 2, Checks.BAD);
            sound(new ShipFixtures(), ahead.toString(), orders);
            ahead.append("d0,1;");
        }
    }

    // ---- the ranges of the calls, as far as three digits tell numbers out of them

    private static void bounds(ShipFixtures desk, String ahead, int least, int most, String behind) {
        for (int value : new int[] {0, 1, 7, 8, 9, 10, 20, 21, 98, 99, 100, 101, 998, 999}) {
            String text = ahead + value + behind;
            Checks.write(desk, text);
            boolean in = value >= least && value <= most;
            Checks.dueFault(text, desk, in ? Checks.NONE : 0, in ? Checks.NONE : 2, in ? Checks.NONE : Checks.BAD);
        }
    }

    private static void rangesOfShips() {
        bounds(new ShipFixtures(), "s", 1, 99, ",2,3,4,5;");
        bounds(new ShipFixtures(), "s1,", 1, 20, ",3,4,5;");
        bounds(new ShipFixtures(), "s1,2,", 1, 99, ",4,5;");
        bounds(new ShipFixtures(), "s1,2,3,", 0, 7, ",5;");
        bounds(new ShipFixtures(), "s1,2,3,4,", 0, 999, ";");
    }

    private static void rangesOfCargoes() {
        bounds(new ShipFixtures(), "c", 1, 99, ",2,3,4,5,6;");
        bounds(new ShipFixtures(), "c1,", 0, 6, ",7,4,5,6;");
        bounds(new ShipFixtures(), "c1,", 1, 7, ",0,4,5,6;");
        bounds(new ShipFixtures(), "c1,7,", 0, 6, ",4,5,6;");
        bounds(new ShipFixtures(), "c1,0,", 1, 7, ",4,5,6;");
        bounds(new ShipFixtures(), "c1,2,3,", 0, 20, ",20,6;");
        bounds(new ShipFixtures(), "c1,2,3,", 0, 999, ",999,6;");
        bounds(new ShipFixtures(), "c1,2,3,99,", 99, 999, ",6;");
        bounds(new ShipFixtures(), "c1,2,3,4,5,", 1, 99, ";");
    }

    private static void rangesOfFixtures() {
        ShipFixtures desk = new ShipFixtures();
        desk.ship(9, 9, 9, 0, 0);
        desk.ship(9, 9, 9, 0, 0);
        desk.cargo(9, 0, 1, 0, 999, 9);
        desk.cargo(9, 0, 1, 0, 999, 9);
        bounds(desk, "f", 0, 1, ",0;");
        bounds(desk, "f1,", 0, 1, ";");
        bounds(new ShipFixtures(), "f", 1, 0, ",0;");
    }

    private static void rangesOfDelays() {
        ShipFixtures desk = new ShipFixtures();
        desk.ship(9, 9, 9, 0, 0);
        desk.ship(9, 9, 9, 0, 0);
        bounds(desk, "d", 0, 1, ",1;");
        bounds(desk, "d1,", 1, 99, ";");
        bounds(new ShipFixtures(), "d", 1, 0, ",1;");
    }

    private static void errorCodesAsTheCallsReturnThem() {
        ShipFixtures full = Desks.full();
        fault(full, "s1,1,1,1,1;", 0, 2, Checks.LIMIT);
        fault(full, "s0,1,1,1,1;", 0, 2, Checks.BAD);
        fault(full, "c1,0,1,0,0,1;", 0, 2, Checks.LIMIT);
        fault(full, "c1,1,1,0,0,1;", 0, 2, Checks.BAD);
        fault(full, "d0,1;", 0, 2, Checks.LIMIT);
        fault(full, "d0,100;", 0, 2, Checks.BAD);
        fault(full, "d5,1;", 0, 2, Checks.BAD);
        fault(full, "f0,0;", 0, 2, Checks.NOT);
        fault(full, "f1,9;", 0, 2, Checks.NOT);
        fault(full, "f5,9;", 0, 2, Checks.BAD);
        fault(full, "f0,10;", 0, 2, Checks.BAD);
        ShipFixtures busy = Desks.busy();
        fault(busy, "f1,4;", 0, 2, Checks.NOT);
        fault(busy, "f1,5;", 0, 2, Checks.NOT);
        fault(busy, "f2,2;", 0, 2, Checks.NOT);
        fault(busy, "f2,6;", 0, 2, Checks.NOT);
        sound(busy, "f2,3;", 1);
    }

    /** An order may need those ahead of it, or be hindered by them: the fifth ship, the last days, a gone cargo. */
    private static void thoseAheadAreDone() {
        sound(new ShipFixtures(), "s9,9,9,0,0;c9,0,1,0,0,9;f0,0;", 3);
        fault(new ShipFixtures(), "s9,9,9,0,0;f0,0;c9,0,1,0,0,9;", 11, 2, Checks.BAD);
        fault(new ShipFixtures(), "s9,9,9,0,0;c9,0,1,0,0,9;d0,1;f0,0;", 29, 2, Checks.NOT);
        fault(new ShipFixtures(), "s9,9,9,0,0;c9,0,1,0,0,9;f0,0;f0,0;", 29, 2, Checks.NOT);
        fault(new ShipFixtures(), "s9,9,9,0,0;c9,0,1,0,0,9;f0,0;d0,1;f0,0;", 34, 2, Checks.NOT);
        ShipFixtures desk = new ShipFixtures();
        for (int k = 0; k < 3; k++) {
            desk.ship(9, 9, 9, 0, 999);
        }
        fault(desk, "s1,1,1,1,1;s1,1,1,1,1;s1,1,1,1,1;", 22, 2, Checks.LIMIT);
        sound(desk, "s1,1,1,1,1;s1,1,1,1,1;", 2);
        for (int k = 0; k < 10; k++) {
            desk.delay(0, 99);
        }
        fault(desk, "d0,9;d0,2;", 5, 2, Checks.LIMIT);
        fault(desk, "d0,10;d0,1;", 6, 2, Checks.LIMIT);
        sound(desk, "d0,9;d0,1;", 2);
        for (int k = 0; k < 9; k++) {
            desk.cargo(1, 0, 1, 0, 0, 1);
        }
        fault(desk, "c1,0,1,0,0,1;c1,0,1,0,0,1;", 13, 2, Checks.LIMIT);
        sound(desk, "c1,0,1,0,0,1;", 1);
    }

    /** Each order does what its call does with the same numbers, 0 ahead or not. */
    private static void ordersAreTheCalls() {
        ShipFixtures played = new ShipFixtures();
        ShipFixtures called = new ShipFixtures();
        sound(played, "s21,012,34,5,006;", 1);
        Checks.due("ship(21, 12, 34, 5, 6)", called.ship(21, 12, 34, 5, 6), 0);
        sound(played, "s9,8,7,6,543;", 1);
        Checks.due("ship(9, 8, 7, 6, 543)", called.ship(9, 8, 7, 6, 543), 1);
        sound(played, "c019,2,4,56,078,90;", 1);
        Checks.due("cargo(19, 2, 4, 56, 78, 90)", called.cargo(19, 2, 4, 56, 78, 90), 0);
        sound(played, "c8,7,3,621,954,10;", 1);
        Checks.due("cargo(8, 7, 3, 621, 954, 10)", called.cargo(8, 7, 3, 621, 954, 10), 1);
        sound(played, "d00,013;", 1);
        Checks.due("delay(0, 13)", called.delay(0, 13), 0);
        sound(played, "f001,1;f0,0;", 2);
        Checks.holds("fix(1, 1)", called.fix(1, 1) > 0);
        Checks.holds("fix(0, 0)", called.fix(0, 0) > 0);
        sound(played, "d0,99;", 1);
        Checks.due("delay(0, 99)", called.delay(0, 99), 1);
        played.clearText();
        Answers.alike("played and called", played, called);
    }

    private static void playedTextStays() {
        ShipFixtures desk = new ShipFixtures();
        Checks.write(desk, "s1,1,1,1,1;");
        for (int ship = 0; ship < 5; ship++) {
            Checks.due("play()", desk.play(), 1);
            Checks.due("ships", desk.count(0), ship + 1);
            Checks.due("the text", desk.count(8), 11);
        }
        Checks.due("play() once more", desk.play(), Checks.NOT);
        Checks.dueFault("s1,1,1,1,1;", desk, 0, 2, Checks.LIMIT);
        Checks.due("clearText()", desk.clearText(), 11);
        Checks.due("play() of no order", desk.play(), 0);
    }

    private static void longestTextOfOrders() {
        ShipFixtures desk = new ShipFixtures();
        desk.ship(9, 9, 9, 0, 0);
        sound(desk, "d0,1;d0,1;d0,1;d0,1;d0,1;d0,1;d0,1;d0,1;d0,1;d0,1;d0,1;d0,1;", 12);
        Checks.due("60 characters", desk.count(8), 60);
        Checks.due("12 days", desk.shipOf(0, 6), 12);
        fault(desk, "d0,1;d0,1;d0,1;d0,1;d0,1;d0,1;d0,1;d0,1;d0,1;d0,1;d0,1;d1,1;", 55, 2, Checks.BAD);
        fault(desk, "d0,1;d0,1;d0,1;d0,1;d0,1;d0,1;d0,1;d0,1;d0,1;d0,1;d0,01;d0,1", 56, 1, 4);
        Checks.due("no room for its end", desk.type(';'), Checks.LIMIT);
    }

    /** A text of 60 characters that ends in the middle of an order, at each of its characters. */
    private static void endsTooEarlyAt60() {
        String order = "c1,1,2,3,4,5;";
        String[] delays = {"d0,1;", "d0,01;", "d0,001;", "d00,001;", "d000,001;"};
        for (int length = 1; length < order.length(); length++) {
            StringBuilder text = new StringBuilder("s1,1,1,1,1;");
            int position = 60 - length;
            while (text.length() + 10 <= position) {
                text.append(delays[0]);
            }
            text.append(delays[position - text.length() - 5]);
            text.append(order, 0, length);
            Checks.due("characters of " + text, text.length(), 60);
            ShipFixtures desk = new ShipFixtures();
            fault(desk, text.toString(), position, 1, length);
            Checks.due("no more room", desk.type(order.charAt(length)), Checks.LIMIT);
        }
    }
}
