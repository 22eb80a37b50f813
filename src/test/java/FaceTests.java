import java.lang.reflect.Constructor;
import java.lang.reflect.Field;
import java.lang.reflect.Method;
import java.lang.reflect.Modifier;
import java.util.Arrays;
import java.util.Set;
import java.util.TreeSet;

/** The public face, and what rule 1 of the language asks of the rest. */
final class FaceTests {
    private static final String FACE = "append(int):int bears(int,int):int bestPlace(int):int bestWind():int"
            + " chimney(int):int cleanness():double clear():int coop(int):int count(int):int day():int"
            + " fault():int gangway(int,int):int hang(int,int):int ifDays(int,int):int ifWind(int):int"
            + " owner(int,int,int,boolean):int ownerOf(int,int):int reach(int):int restore():int"
            + " roof(int,int):int run():int save():int steps(int,int):int strongest(int,int,int):int"
            + " take(int,int):int undo():int walk(int,int):int why(int):int whyNotHang(int,int):int wind(int):int";

    private FaceTests() {
    }

    static void all(Checks checks) {
        checks.test("the constants", FaceTests::constants);
        checks.test("the face", FaceTests::face);
        checks.test("classes inside", FaceTests::classesInside);
    }

    private static void constants(Checks c) {
        c.due("INVALID_ARGUMENT", RoofOrdinances.INVALID_ARGUMENT, -1);
        c.due("NOT_POSSIBLE", RoofOrdinances.NOT_POSSIBLE, -2);
        c.due("LIMIT_REACHED", RoofOrdinances.LIMIT_REACHED, -3);
        c.due("NOT_FOUND", RoofOrdinances.NOT_FOUND, -4);
    }

    private static void face(Checks c) {
        Class<?> type = RoofOrdinances.class;
        c.due("public and final", type.getModifiers(), Modifier.PUBLIC | Modifier.FINAL);
        Set<String> face = new TreeSet<>();
        for (Method method : type.getDeclaredMethods()) {
            if (Modifier.isPrivate(method.getModifiers())) {
                continue;
            }
            StringBuilder told = new StringBuilder(method.getName()).append('(');
            for (Class<?> parameter : method.getParameterTypes()) {
                told.append(told.charAt(told.length() - 1) == '(' ? "" : ",").append(parameter.getName());
            }
            face.add(told.append("):").append(method.getReturnType()).toString());
            c.due(method.getName() + " is public", method.getModifiers(), Modifier.PUBLIC);
        }
        Set<String> want = new TreeSet<>(Arrays.asList(FACE.split(" ")));
        if (!face.equals(want)) {
            c.tell("the face is " + face);
        }
        for (Constructor<?> constructor : type.getDeclaredConstructors()) {
            c.due("public constructor", constructor.getModifiers(), Modifier.PUBLIC);
            c.due("parameters", constructor.getParameterCount(), 0);
        }
        int constants = 0;
        for (Field field : type.getDeclaredFields()) {
            boolean isPrivate = Modifier.isPrivate(field.getModifiers());
            constants += isPrivate ? 0 : 1;
            boolean isConstant = Modifier.isStatic(field.getModifiers());
            c.due(field.getName() + " is final, if static",
                    isConstant && !Modifier.isFinal(field.getModifiers()) ? 1 : 0, 0);
        }
        c.due("public constants", constants, 4);
    }

    private static void classesInside(Checks c) {
        Set<String> face = new TreeSet<>();
        for (Method method : RoofOrdinances.class.getDeclaredMethods()) {
            if (Modifier.isPublic(method.getModifiers())) {
                face.add(method.getName());
            }
        }
        for (Class<?> inside : RoofOrdinances.class.getDeclaredClasses()) {
            c.due(inside + " is static and private",
                    inside.getModifiers() & (Modifier.STATIC | Modifier.PRIVATE),
                    Modifier.STATIC | Modifier.PRIVATE);
            for (Method method : inside.getDeclaredMethods()) {
                if (face.contains(method.getName())) {
                    c.tell(inside + " has a method with a public one's name: " + method.getName());
                }
            }
        }
    }
}
