import java.util.ArrayList;
import java.util.List;
import java.util.function.ToIntFunction;

/** The sentences of 'Changes and errors' and of the promises 18 and 19, at their edges. */
public final class HistoryEdgesTest {
    private static final int MOST_STATES = 4;

    private record Change(String name, ToIntFunction<ShipFixtures> call) {
    }

    /** One behind another they are possible, and each of the eight kinds is there. */
    private static final List<Change> CHANGES = List.of(
            new Change("port(7, 60, 6)", desk -> desk.port(7, 60, 6)),
            new Change("ship(20, 10, 5, 0, 10)", desk -> desk.ship(20, 10, 5, 0, 10)),
            new Change("cargo(20, 3, 1, 0, 12, 10)", desk -> desk.cargo(20, 3, 1, 0, 12, 10)),
            new Change("fix(0, 0)", desk -> desk.fix(0, 0)),
            new Change("callOff(0)", desk -> desk.callOff(0)),
            new Change("play() of no order", desk -> desk.play()),
            new Change("fix(0, 0) again", desk -> desk.fix(0, 0)),
            new Change("settle(0)", desk -> desk.settle(0)),
            new Change("cargo(15, 1, 7, 0, 18, 9)", desk -> desk.cargo(15, 1, 7, 0, 18, 9)),
            new Change("fix(0, 1)", desk -> desk.fix(0, 1)),
            new Change("delay(0, 1) that cancels", desk -> desk.delay(0, 1)),
            new Change("port(7, 1, 2)", desk -> desk.port(7, 1, 2)),
            new Change("delay(0, 1) without fixture", desk -> desk.delay(0, 1)));

    public static void main(String[] args) {
        emptyHistory();
        statesUpToFour();
        undoIsEachStateInTurn();
        undoIsNoChange();
        undoneStateIsForgotten();
        changeToWhatItWasIsAChange();
        errorsKeepNoState();
        textIsNoState();
        countersComeBack();
        playIsOneChange();
        undoOfPlayUndoesAllOfIt();
        numbersAreGivenAgain();
        Checks.finish("HistoryEdgesTest");
    }

    private static ShipFixtures changed(int changes) {
        ShipFixtures desk = new ShipFixtures();
        for (int k = 0; k < changes; k++) {
            Change it = CHANGES.get(k);
            Checks.holds(it.name + " is possible", it.call.applyAsInt(desk) >= 0);
        }
        return desk;
    }

    private static void emptyHistory() {
        ShipFixtures desk = new ShipFixtures();
        Checks.due("states at first", desk.count(7), 0);
        Checks.due("undo()", desk.undo(), Checks.NOT);
        Checks.due("states", desk.count(7), 0);
        Checks.due("ship(1, 1, 1, 1, 1)", desk.ship(1, 1, 1, 1, 1), 0);
        Checks.due("undo()", desk.undo(), 0);
        Checks.due("undo() of none", desk.undo(), Checks.NOT);
        Answers.alike("all undone", desk, new ShipFixtures());
    }

    /** Each change keeps a state, up to 4; from the fifth on one is dropped. */
    private static void statesUpToFour() {
        for (int changes = 0; changes <= CHANGES.size(); changes++) {
            Checks.due(changes + " changes", changed(changes).count(7), Math.min(changes, MOST_STATES));
        }
    }

    /** What is dropped is the oldest state: the four latest ones come back, the latest first, and no more. */
    private static void undoIsEachStateInTurn() {
        for (int changes = 0; changes <= CHANGES.size(); changes++) {
            int most = Math.min(changes, MOST_STATES);
            for (int undos = 1; undos <= most; undos++) {
                String when = changes + " changes, " + undos + " undone";
                ShipFixtures desk = changed(changes);
                for (int k = 1; k <= undos; k++) {
                    Checks.due(when + ": undo()", desk.undo(), most - k);
                }
                ShipFixtures then = changed(changes - undos);
                List<String> due = new ArrayList<>(Answers.of(then));
                due.set(7, "count(7) answered " + (most - undos));
                Answers.due(when, Answers.of(desk), due);
                if (undos == most) {
                    Checks.due(when + ": one more", desk.undo(), Checks.NOT);
                    Answers.due(when, Answers.of(desk), due);
                }
            }
        }
    }

    private static void undoIsNoChange() {
        ShipFixtures desk = changed(3);
        Checks.due("undo()", desk.undo(), 2);
        Checks.due("count(7)", desk.count(7), 2);
        Checks.due("undo() takes back one more, not the undo", desk.undo(), 1);
        Checks.dueCounts("port alone", desk, 0, 0);
    }

    private static void undoneStateIsForgotten() {
        ShipFixtures desk = new ShipFixtures();
        for (int k = 0; k < 4; k++) {
            desk.ship(1 + k, 1, 1, 0, 0);
        }
        desk.undo();
        desk.undo();
        Checks.due("another third ship", desk.ship(33, 1, 1, 0, 0), 2);
        Checks.due("states", desk.count(7), 3);
        Checks.due("another fourth ship", desk.ship(44, 1, 1, 0, 0), 3);
        Checks.due("states", desk.count(7), 4);
        Checks.due("a fifth ship", desk.ship(55, 1, 1, 0, 0), 4);
        Checks.due("states", desk.count(7), 4);
        Checks.due("its size", desk.shipOf(2, 0), 33);
        int[] sizes = {1, 2, 33, 44};
        for (int left = 3; left >= 0; left--) {
            Checks.due("undo()", desk.undo(), left);
            Checks.due("ships", desk.count(0), left + 1);
            Checks.due("the last ship", desk.shipOf(left, 0), sizes[left]);
        }
        Checks.due("the state without a ship was dropped", desk.undo(), Checks.NOT);
        Checks.due("ships", desk.count(0), 1);
    }

    private static void changeToWhatItWasIsAChange() {
        ShipFixtures desk = new ShipFixtures();
        Checks.due("port(0, 0, 0), where it is", desk.port(0, 0, 0), 0);
        Checks.due("states", desk.count(7), 1);
        Checks.due("play() of no order", desk.play(), 0);
        Checks.due("states", desk.count(7), 2);
        desk.ship(1, 1, 1, 0, 0);
        Checks.due("a delay that cancels none", desk.delay(0, 1), 0);
        Checks.due("states", desk.count(7), 4);
    }

    private static void errorsKeepNoState() {
        ShipFixtures desk = new ShipFixtures();
        desk.ship(1, 1, 1, 0, 0);
        desk.ship(2, 1, 1, 0, 0);
        desk.fix(0, 0);
        desk.delay(0, 0);
        desk.callOff(0);
        desk.settle(0);
        desk.port(8, 0, 0);
        desk.ship(0, 1, 1, 0, 0);
        desk.cargo(1, 1, 1, 0, 0, 1);
        Checks.write(desk, "x");
        desk.play();
        Checks.due("states", desk.count(7), 2);
        Checks.due("undo() of the second ship", desk.undo(), 1);
        Checks.due("ships", desk.count(0), 1);
    }

    /** type and clearText are no changes, and undo leaves the text as it is. */
    private static void textIsNoState() {
        ShipFixtures desk = new ShipFixtures();
        Checks.write(desk, "d0,1;");
        Checks.due("states", desk.count(7), 0);
        desk.ship(1, 1, 1, 0, 0);
        Checks.write(desk, "d0,10;");
        Checks.due("states", desk.count(7), 1);
        Checks.due("play()", desk.play(), 1);
        desk.clearText();
        Checks.due("undo() of play", desk.undo(), 1);
        Checks.due("the text is still empty", desk.count(8), 0);
        Checks.write(desk, "d0,99;");
        Checks.due("undo() of ship", desk.undo(), 0);
        Checks.due("the text is still there", desk.count(8), 6);
        Checks.dueFault("d0,99;", desk, 0, 2, Checks.BAD);
    }

    /** A state is everything but the text: what was cancelled and called off so far, too. */
    private static void countersComeBack() {
        ShipFixtures desk = changed(4);
        desk.delay(0, 1);
        Checks.due("cancelled", desk.count(5), 1);
        desk.undo();
        Checks.due("not cancelled", desk.count(5), 0);
        desk.callOff(0);
        Checks.due("called off", desk.count(6), 1);
        Checks.due("paid", desk.count(4), Checks.MILLION - 20);
        desk.undo();
        Checks.due("not called off", desk.count(6), 0);
        Checks.due("not paid", desk.count(4), Checks.MILLION);
    }

    private static void playIsOneChange() {
        ShipFixtures desk = new ShipFixtures();
        Checks.write(desk, "s1,1,1,1,1;s2,1,1,1,1;s3,1,1,1,1;s4,1,1,1,1;s5,1,1,1,1;d4,9;");
        Checks.due("play() of 6 orders", desk.play(), 6);
        Checks.due("states", desk.count(7), 1);
        Checks.due("undo()", desk.undo(), 0);
        Checks.due("the text stays", desk.clearText(), 60);
        Answers.alike("all undone", desk, new ShipFixtures());
    }

    private static void undoOfPlayUndoesAllOfIt() {
        ShipFixtures desk = changed(10);
        Checks.write(desk, "d0,1;s9,9,9,4,4;c9,4,5,0,999,9;f1,2;d1,9;");
        List<String> ahead = Answers.of(desk);
        Checks.due("play()", desk.play(), 5);
        Checks.due("cancelled", desk.count(5), 1);
        Checks.due("fixed", desk.cargoOf(2, 7), 1);
        Checks.due("undo()", desk.undo(), 3);
        List<String> due = new ArrayList<>(ahead);
        due.set(7, "count(7) answered 3");
        Answers.due("undone", Answers.of(desk), due);
    }

    /** What a ship or cargo was that has been undone leaves nothing to the one that gets its number then. */
    private static void numbersAreGivenAgain() {
        ShipFixtures desk = changed(5);
        Checks.due("account", desk.shipOf(0, 8), Checks.MILLION - 20);
        for (int k = 0; k < 4; k++) {
            desk.undo();
        }
        Checks.dueCounts("port alone", desk, 0, 0);
        Checks.due("ship 0", desk.ship(1, 2, 3, 4, 5), 0);
        Checks.dueShip("the new one", desk, 0, 1, 2, 3, 4, 5, 4, 5, 0, Checks.MILLION, Checks.MILLION);
        Checks.due("cargo 0", desk.cargo(1, 2, 3, 4, 5, 6), 0);
        Checks.dueCargo("the new one", desk, 0, 1, 2, 3, 4, 5, 6, 0, Checks.NONE);
    }
}
