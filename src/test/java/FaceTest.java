import java.lang.reflect.Constructor;
import java.lang.reflect.Field;
import java.lang.reflect.Method;
import java.lang.reflect.Modifier;
import java.util.ArrayList;
import java.util.Arrays;
import java.util.List;

/** The public face, and the rules of LANGUAGE.md that can be seen from outside: 1, 2, 5 and 11. */
public final class FaceTest {
    private static final String[] METHODS = {
        "bestCargo(int)", "bestShip(int)", "callOff(int)", "cargo(int,int,int,int,int,int)", "cargoOf(int,int)",
        "clearText()", "count(int)", "delay(int,int)", "distance(int,int)", "fault(int)", "fix(int,int)",
        "fixtureOf(int,int,int)", "plan(int)", "play()", "port(int,int,int)", "settle(int)",
        "ship(int,int,int,int,int)", "shipOf(int,int)", "slack(int)", "type(int)", "undo()", "voyage(int,int,int)",
    };
    private static final String[] CONSTANTS = {
        "INVALID_ARGUMENT", "LIMIT_REACHED", "NOT_FOUND", "NOT_POSSIBLE",
    };

    public static void main(String[] args) {
        constants();
        methods();
        fields();
        classesInside();
        Checks.finish("FaceTest");
    }

    private static void constants() {
        Checks.due("INVALID_ARGUMENT", ShipFixtures.INVALID_ARGUMENT, -1000001);
        Checks.due("NOT_POSSIBLE", ShipFixtures.NOT_POSSIBLE, -1000002);
        Checks.due("LIMIT_REACHED", ShipFixtures.LIMIT_REACHED, -1000003);
        Checks.due("NOT_FOUND", ShipFixtures.NOT_FOUND, -1000004);
    }

    private static void methods() {
        List<String> open = new ArrayList<>();
        List<String> hidden = new ArrayList<>();
        for (Method method : ShipFixtures.class.getDeclaredMethods()) {
            String face = method.toString();
            if (Modifier.isPrivate(method.getModifiers())) {
                hidden.add(method.getName());
            } else {
                Checks.holds(face + " is public and no more", method.getModifiers() == Modifier.PUBLIC);
                Checks.holds(face + " returns int", method.getReturnType() == int.class);
                open.add(face.substring(face.indexOf("ShipFixtures.") + "ShipFixtures.".length()));
            }
        }
        open.sort(null);
        Checks.holds("the methods are " + open, open.equals(Arrays.asList(METHODS)));
        for (String name : hidden) {
            for (String face : METHODS) {
                Checks.holds(name + " is no public name", !face.startsWith(name + "("));
            }
        }
        Constructor<?>[] made = ShipFixtures.class.getDeclaredConstructors();
        Checks.due("constructors", made.length, 1);
        Checks.holds("its constructor", made[0].toString().equals("public ShipFixtures()"));
    }

    private static void fields() {
        List<String> open = new ArrayList<>();
        for (Field field : ShipFixtures.class.getDeclaredFields()) {
            int is = field.getModifiers();
            Checks.holds(field + " is final if static", !Modifier.isStatic(is) || Modifier.isFinal(is));
            if (!Modifier.isPrivate(is)) {
                Checks.holds(field + " is public static final int",
                        is == (Modifier.PUBLIC | Modifier.STATIC | Modifier.FINAL) && field.getType() == int.class);
                open.add(field.getName());
            }
        }
        open.sort(null);
        Checks.holds("the constants are " + open, open.equals(Arrays.asList(CONSTANTS)));
    }

    private static void classesInside() {
        int is = ShipFixtures.class.getModifiers();
        Checks.holds("public final class", is == (Modifier.PUBLIC | Modifier.FINAL));
        Checks.holds("no package", ShipFixtures.class.getPackageName().isEmpty());
        Class<?>[] inside = ShipFixtures.class.getDeclaredClasses();
        Checks.holds("at most some twelve classes", inside.length < 12);
        for (Class<?> one : inside) {
            Checks.holds(one + " is private and static",
                    Modifier.isPrivate(one.getModifiers()) && Modifier.isStatic(one.getModifiers()));
            for (Field field : one.getDeclaredFields()) {
                Checks.holds(field + " is final if static",
                        !Modifier.isStatic(field.getModifiers()) || Modifier.isFinal(field.getModifiers()));
            }
            methodsInside(one);
        }
    }

    private static void methodsInside(Class<?> one) {
        for (Method method : one.getDeclaredMethods()) {
            Checks.holds(method + " takes at most seven parameters", method.getParameterCount() <= 7);
            for (String face : METHODS) {
                Checks.holds(method + " bears no public name", !face.startsWith(method.getName() + "("));
            }
        }
    }
}
