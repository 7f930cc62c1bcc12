import java.lang.reflect.Constructor;
import java.lang.reflect.Field;
import java.lang.reflect.Method;
import java.lang.reflect.Modifier;
import java.util.TreeSet;

/** The class shows the document's face, and nothing else; its classes have the form of LANGUAGE.md. */
public final class FaceTest {
    private static final String[] CONSTANTS = {"UNKNOWN -1", "OUT_OF_RANGE -2", "BUSY -3", "BLOCKED -4", "FULL -5", "NONE -6"};
    private static final String[] METHODS = {"setUp 3", "setChoiceRule 1", "setPairRule 1", "connect 2", "disconnect 1",
        "takeOut 1", "putBack 1", "pack 0", "type 1", "clearText 0", "perform 0", "undo 0", "keep 0", "restore 0",
        "callOfInlet 1", "callOfOutlet 1", "inletOf 1", "outletOf 1", "middleOf 1", "onFirstLink 2", "onLastLink 2",
        "load 1", "freeForFirst 1", "freeForLast 1", "inService 0", "total 1", "wouldMove 2", "chainCall 3", "reason 2",
        "leastMiddles 0", "wouldDrop 1", "reachable 1"};
    private static final int MOST_FIELDS = 20;

    public static void main(String[] args) throws IllegalAccessException {
        Class<?> face = ClosExchange.class;
        Due.due("public final class", face.getModifiers(), Modifier.PUBLIC | Modifier.FINAL);
        constructors(face);
        constants(face);
        methods(face);
        for (Class<?> inside : face.getDeclaredClasses()) {
            Due.due(inside + " is static", bit(Modifier.isStatic(inside.getModifiers())), 1);
            Due.due(inside + " is public", bit(Modifier.isPublic(inside.getModifiers())), 0);
            form(inside);
        }
        form(face);
        Due.end("FaceTest");
    }

    /** What LANGUAGE.md asks of each class: its static fields, how many others it has, and its methods' names. */
    private static void form(Class<?> type) {
        int fields = 0;
        for (Field field : type.getDeclaredFields()) {
            boolean isStatic = Modifier.isStatic(field.getModifiers());
            Due.due(field + " is final, if it is static", bit(isStatic && !Modifier.isFinal(field.getModifiers())), 0);
            fields += isStatic ? 0 : 1;
        }
        Due.due(type + " has " + fields + " fields", bit(fields <= MOST_FIELDS), 1);
        for (Method method : type.getDeclaredMethods()) {
            boolean hidden = !Modifier.isPublic(method.getModifiers());
            Due.due(method + " bears the name of a public one", bit(hidden && isPublicName(method.getName())), 0);
        }
    }

    private static boolean isPublicName(String name) {
        for (String method : METHODS) {
            if (method.startsWith(name + " ")) {
                return true;
            }
        }
        return false;
    }

    private static int bit(boolean is) {
        return is ? 1 : 0;
    }

    private static void constructors(Class<?> face) {
        Constructor<?>[] all = face.getDeclaredConstructors();
        Due.due("constructors", all.length, 1);
        Due.due("parameters of the constructor", all[0].getParameterCount(), 0);
        Due.due("the constructor is public", bit(Modifier.isPublic(all[0].getModifiers())), 1);
    }

    private static void constants(Class<?> face) throws IllegalAccessException {
        TreeSet<String> wanted = new TreeSet<>(java.util.List.of(CONSTANTS));
        for (Field field : face.getDeclaredFields()) {
            int modifiers = field.getModifiers();
            if (Modifier.isPublic(modifiers)) {
                Due.due(field + " is static and final", bit(Modifier.isStatic(modifiers) && Modifier.isFinal(modifiers)), 1);
                Due.due(field + " is wanted", bit(wanted.remove(field.getName() + " " + field.getInt(null))), 1);
            } else {
                Due.due(field + " is private", bit(Modifier.isPrivate(modifiers)), 1);
            }
        }
        Due.due("constants that are missing: " + wanted, wanted.size(), 0);
    }

    private static void methods(Class<?> face) {
        TreeSet<String> wanted = new TreeSet<>(java.util.List.of(METHODS));
        for (Method method : face.getDeclaredMethods()) {
            int modifiers = method.getModifiers();
            if (!Modifier.isPublic(modifiers)) {
                Due.due(method + " is private", bit(Modifier.isPrivate(modifiers)), 1);
                continue;
            }
            Due.due(method + " is wanted", bit(wanted.remove(method.getName() + " " + method.getParameterCount())), 1);
            Due.due(method + " answers an int", bit(method.getReturnType() == int.class), 1);
            Due.due(method + " is static", bit(Modifier.isStatic(modifiers)), 0);
            for (Class<?> type : method.getParameterTypes()) {
                Due.due(method + " takes " + type, bit(type == (method.getName().equals("type") ? char.class : int.class)), 1);
            }
        }
        Due.due("methods that are missing: " + wanted, wanted.size(), 0);
    }
}
