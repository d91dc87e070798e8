import java.lang.reflect.Constructor;
import java.lang.reflect.Field;
import java.lang.reflect.Method;
import java.lang.reflect.Modifier;
import java.util.Arrays;
import java.util.TreeSet;

/** The public face: the document's constants, constructor and methods, and no others. */
final class FaceTest {
    private static final String METHODS = "begin/0 turn/0 back/0 drop/0 writeOld/4 writeNew/3 remove/1 drain/1 backfill/1 "
            + "crash/0 mend/1 read/3 shapeOf/3 queued/2 keys/1 check/0 quarrel/0 atRisk/0 walk/2 step/1 count/1 undo/0 "
            + "type/1 clearText/0 fault/1 play/0";
    private static final String CONSTANTS = "INVALID_ARGUMENT NOT_POSSIBLE LIMIT_REACHED NOT_FOUND";

    public static void main(String[] args) {
        Due.due("public and final", Modifier.PUBLIC | Modifier.FINAL, TwoShapes.class.getModifiers());
        constants();
        constructors();
        methods();
        fields();
        Due.end();
    }

    private static void constants() {
        Due.due(-1000001, TwoShapes.INVALID_ARGUMENT);
        Due.due(-1000002, TwoShapes.NOT_POSSIBLE);
        Due.due(-1000003, TwoShapes.LIMIT_REACHED);
        Due.due(-1000004, TwoShapes.NOT_FOUND);
    }

    private static void constructors() {
        Constructor<?>[] made = TwoShapes.class.getDeclaredConstructors();
        Due.due("constructors", 1, made.length);
        Due.due("its arguments", 0, made[0].getParameterCount());
        Due.due("public", Modifier.PUBLIC, made[0].getModifiers());
    }

    private static void methods() {
        TreeSet<String> face = new TreeSet<>(Arrays.asList(METHODS.split(" ")));
        TreeSet<String> found = new TreeSet<>();
        for (Method method : TwoShapes.class.getDeclaredMethods()) {
            if (!Modifier.isPrivate(method.getModifiers())) {
                found.add(method.getName() + "/" + method.getParameterCount());
                Due.due(method + " answers an int", 1, method.getReturnType() == int.class ? 1 : 0);
            }
        }
        Due.due("methods " + found, 1, found.equals(face) ? 1 : 0);
    }

    private static void fields() {
        TreeSet<String> face = new TreeSet<>(Arrays.asList(CONSTANTS.split(" ")));
        TreeSet<String> found = new TreeSet<>();
        for (Field field : TwoShapes.class.getDeclaredFields()) {
            if (!Modifier.isPrivate(field.getModifiers())) {
                found.add(field.getName());
            }
        }
        Due.due("fields " + found, 1, found.equals(face) ? 1 : 0);
    }
}
