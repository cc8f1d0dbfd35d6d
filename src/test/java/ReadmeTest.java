import java.io.IOException;
import java.lang.reflect.Field;
import java.lang.reflect.Method;
import java.lang.reflect.Modifier;
import java.nio.file.DirectoryStream;
import java.nio.file.Files;
import java.nio.file.Path;

/** What README.md says: its example answers as it tells, and it leaves out no call, no error and no test. */
public final class ReadmeTest {
    private static String page;

    public static void main(String[] args) throws IOException, IllegalAccessException {
        page = Files.readString(Path.of("README.md"));
        example();
        face();
        tests();
        Checks.finish("ReadmeTest");
    }

    /** A row of the example: the page has it, with this answer behind it. */
    private static void row(String row, int got, int want) {
        Checks.due(row, got, want);
        Checks.holds("README.md: " + row + " // " + want,
                page.lines().anyMatch(line -> line.startsWith(row) && line.contains("// " + want + ":")));
    }

    private static void example() {
        ShipFixtures desk = new ShipFixtures();
        row("int ship = desk.ship(50, 10, 20, 0, 5);", desk.ship(50, 10, 20, 0, 5), 0);
        row("int cargo = desk.cargo(40, 1, 3, 8, 12, 90);", desk.cargo(40, 1, 3, 8, 12, 90), 0);
        row("int could = desk.voyage(ship, cargo, 0);", desk.voyage(0, 0, 0), 0);
        row("int earns = desk.voyage(ship, cargo, 3);", desk.voyage(0, 0, 3), 1003420);
        row("int bits = desk.voyage(ship, cargo, 4);", desk.voyage(0, 0, 4), Float.floatToIntBits(380f));
        row("int free = desk.fix(ship, cargo);", desk.fix(0, 0), 14);
        row("int again = desk.fix(ship, cargo);", desk.fix(0, 0), -1000002);
        row("int slack = desk.slack(ship);", desk.slack(0), 6);
        row("int lost = desk.delay(ship, 3);", desk.delay(0, 3), 0);
        row("int later = desk.shipOf(ship, 4);", desk.shipOf(0, 4), 15);
        row("int states = desk.undo();", desk.undo(), 3);
        Checks.due("shipOf(0, 4) behind undo", desk.shipOf(0, 4), 14);
        String text = "s50,10,20,0,5;f1,0;";
        Checks.holds("README.md: " + text, page.contains("\"" + text + "\""));
        Checks.write(desk, text);
        row("int position = desk.fault(0);", desk.fault(0), 14);
        row("int cause = desk.fault(2);", desk.fault(2), -1000002);
    }

    private static void face() throws IllegalAccessException {
        for (Method method : ShipFixtures.class.getDeclaredMethods()) {
            if (Modifier.isPublic(method.getModifiers())) {
                Checks.holds("README.md: " + method.getName(), page.contains("\n| `" + method.getName() + "("));
            }
        }
        for (Field field : ShipFixtures.class.getDeclaredFields()) {
            if (Modifier.isPublic(field.getModifiers())) {
                String row = "\n| `" + field.getName() + "` | " + field.getInt(null) + " |";
                Checks.holds("README.md: " + row, page.contains(row));
            }
        }
        for (int code = ShipFixtures.NOT_FOUND; code <= ShipFixtures.INVALID_ARGUMENT; code++) {
            Checks.holds("the bits of no number: " + code, Float.isNaN(Float.intBitsToFloat(code)));
        }
    }

    private static void tests() throws IOException {
        try (DirectoryStream<Path> files = Files.newDirectoryStream(Path.of("src/test/java"), "*Test.java")) {
            for (Path file : files) {
                String name = file.getFileName().toString().replace(".java", "");
                Checks.holds("README.md: " + name, page.contains("\n| " + name + " |"));
            }
        }
    }
}
