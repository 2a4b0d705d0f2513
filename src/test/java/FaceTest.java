import java.lang.reflect.Constructor;
import java.lang.reflect.Field;
import java.lang.reflect.Method;
import java.lang.reflect.Modifier;
import java.util.Set;
import java.util.TreeSet;

/** The public face, and rule 1 of the language: nothing else is to be seen. */
public final class FaceTest {
    private static final Check CHECK = new Check();
    private static final String NO_CELL = " IndexOutOfBoundsException";
    private static final String NO_VALUE = " IllegalArgumentException";
    private static final String NO_STATE = " IllegalStateException";

    public static void main(String[] args) {
        CHECK.due("the class is public and final", NeedleGrid.class.getModifiers(), Modifier.PUBLIC | Modifier.FINAL);
        CHECK.due("NONE", NeedleGrid.NONE, -1);
        constants();
        constructors();
        methods();
        privateNames();
        CHECK.end("FaceTest");
    }

    private static void constants() {
        for (Field field : NeedleGrid.class.getDeclaredFields()) {
            boolean isNone = field.getName().equals("NONE");
            int want = Modifier.PUBLIC | Modifier.STATIC | Modifier.FINAL;
            if (isNone) {
                CHECK.due("NONE is a public constant", field.getModifiers(), want);
                CHECK.due("NONE is an int", field.getType().getName(), "int");
            } else {
                CHECK.due("private: " + field.getName(), Modifier.isPrivate(field.getModifiers()), true);
            }
        }
    }

    private static void constructors() {
        Constructor<?>[] all = NeedleGrid.class.getDeclaredConstructors();
        CHECK.due("constructors", all.length, 1);
        CHECK.due("public", Modifier.isPublic(all[0].getModifiers()), true);
        CHECK.due("its parameters", all[0].getParameterCount(), 0);
    }

    private static void methods() {
        Set<String> want = new TreeSet<>(Set.of(
                "int needle(int int)" + NO_CELL + NO_VALUE,
                "int friction(int int)" + NO_CELL + NO_VALUE,
                "int hold(int boolean)" + NO_CELL,
                "int swap(int int)" + NO_CELL,
                "int bar(int int int)" + NO_CELL + NO_VALUE + NO_STATE,
                "int unbar(int)" + NO_CELL + NO_STATE,
                "int coil(int int)" + NO_VALUE,
                "int set(int int)" + NO_CELL + NO_VALUE,
                "int step(int)" + NO_VALUE,
                "int append(int)" + NO_VALUE + NO_STATE,
                "int clearBuffer()",
                "int firstError()",
                "int bars()" + NO_VALUE,
                "int undo()" + NO_STATE,
                "int cell(int int)" + NO_CELL + NO_VALUE,
                "int barOf(int int)" + NO_VALUE,
                "int count(int)" + NO_VALUE,
                "int pointing(int)" + NO_VALUE,
                "int setting(int)" + NO_CELL,
                "int restsIn()",
                "int points(int int)" + NO_CELL + NO_VALUE,
                "int ifBar(int int int)" + NO_CELL + NO_VALUE,
                "int bestBar(int int int)" + NO_CELL + NO_VALUE,
                "int leastTurns(int)" + NO_CELL,
                "double obedience()",
                "long digest()"));
        Set<String> got = new TreeSet<>();
        for (Method method : NeedleGrid.class.getDeclaredMethods()) {
            if (!Modifier.isPrivate(method.getModifiers())) {
                got.add(written(method));
                CHECK.due(method.getName() + " is public alone", method.getModifiers(), Modifier.PUBLIC);
            }
        }
        CHECK.due("the public methods", got.toString(), want.toString());
    }

    private static String written(Method method) {
        StringBuilder text = new StringBuilder(method.getReturnType() + " " + method.getName() + "(");
        String gap = "";
        for (Class<?> type : method.getParameterTypes()) {
            text.append(gap).append(type);
            gap = " ";
        }
        text.append(")");
        for (Class<?> type : method.getExceptionTypes()) {
            text.append(" ").append(type.getSimpleName());
        }
        return text.toString();
    }

    private static void privateNames() {
        Set<String> faces = new TreeSet<>();
        for (Method method : NeedleGrid.class.getMethods()) {
            faces.add(method.getName());
        }
        noFaceName(NeedleGrid.class, faces);
        for (Class<?> inside : NeedleGrid.class.getDeclaredClasses()) {
            CHECK.due(inside.getName() + " is static", Modifier.isStatic(inside.getModifiers()), true);
            CHECK.due(inside.getName() + " is not public", Modifier.isPublic(inside.getModifiers()), false);
            CHECK.due(inside.getName() + " is not protected", Modifier.isProtected(inside.getModifiers()), false);
            noFaceName(inside, faces);
        }
    }

    private static void noFaceName(Class<?> type, Set<String> faces) {
        for (Method method : type.getDeclaredMethods()) {
            if (!Modifier.isPublic(method.getModifiers())) {
                CHECK.due("a face's name: " + method, faces.contains(method.getName()), false);
            }
        }
    }
}
