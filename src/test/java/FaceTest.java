import java.lang.reflect.Constructor;
import java.lang.reflect.Field;
import java.lang.reflect.Method;
import java.lang.reflect.Modifier;
import java.util.Set;
import java.util.TreeSet;

/** The public face: the constants, the constructor and the methods of the document, and no others. */
public final class FaceTest {
    private static final Checks CHECKS = new Checks();
    private static final String[] METHODS = {
        "come/0", "attend/2", "found/1", "setLot/1", "change/2", "forge/1", "propose/2", "second/2", "learn/1", "undo/0",
        "append/1", "clearText/0", "run/0", "count/1", "elder/2", "villager/2", "entry/2", "draw/2", "missing/1",
        "reachable/0", "nextDrawn/1", "spare/0", "lotFor/2",
    };

    public static void main(String[] args) {
        CHECKS.due("INVALID_ARGUMENT", VillageLog.INVALID_ARGUMENT, -1);
        CHECKS.due("ILLEGAL_STATE", VillageLog.ILLEGAL_STATE, -2);
        CHECKS.due("CAPACITY_EXCEEDED", VillageLog.CAPACITY_EXCEEDED, -3);
        CHECKS.due("NONE", VillageLog.NONE, -9);
        CHECKS.holds("public final", Modifier.isPublic(VillageLog.class.getModifiers()) && Modifier.isFinal(VillageLog.class.getModifiers()));
        methods();
        fields();
        constructors();
        CHECKS.end("FaceTest");
    }

    private static void methods() {
        Set<String> wanted = new TreeSet<>(Set.of(METHODS));
        Set<String> names = new TreeSet<>();
        for (String method : METHODS) {
            names.add(method.substring(0, method.indexOf('/')));
        }
        Set<String> found = new TreeSet<>();
        for (Method method : VillageLog.class.getDeclaredMethods()) {
            if (Modifier.isPrivate(method.getModifiers())) {
                CHECKS.holds("no private method is named " + method.getName(), !names.contains(method.getName()));
                continue;
            }
            found.add(method.getName() + "/" + method.getParameterCount());
            CHECKS.holds(method + " is public and answers an int", Modifier.isPublic(method.getModifiers()) && method.getReturnType() == int.class);
            for (Class<?> parameter : method.getParameterTypes()) {
                CHECKS.holds(method + " takes ints", parameter == int.class);
            }
        }
        CHECKS.holds("the methods are " + wanted + ", not " + found, wanted.equals(found));
    }

    private static void fields() {
        int constants = 0;
        for (Field field : VillageLog.class.getDeclaredFields()) {
            int modifiers = field.getModifiers();
            CHECKS.holds(field + " is final if it is static", !Modifier.isStatic(modifiers) || Modifier.isFinal(modifiers));
            if (!Modifier.isPrivate(modifiers)) {
                constants++;
                CHECKS.holds(field + " is a constant", Modifier.isPublic(modifiers) && Modifier.isStatic(modifiers));
            }
        }
        CHECKS.due("constants", constants, 4);
    }

    private static void constructors() {
        Constructor<?>[] constructors = VillageLog.class.getDeclaredConstructors();
        CHECKS.due("constructors", constructors.length, 1);
        CHECKS.holds("the constructor is public", Modifier.isPublic(constructors[0].getModifiers()));
        CHECKS.due("its parameters", constructors[0].getParameterCount(), 0);
        for (Class<?> inside : VillageLog.class.getDeclaredClasses()) {
            CHECKS.holds(inside + " is static and not public", Modifier.isStatic(inside.getModifiers()) && !Modifier.isPublic(inside.getModifiers()));
        }
    }
}
