import java.lang.reflect.Constructor;
import java.lang.reflect.Field;
import java.lang.reflect.Method;
import java.lang.reflect.Modifier;
import java.util.HashSet;
import java.util.Set;

/** The public face: each constant, constructor and method as the document writes it, and nothing beside it. */
final class FaceTest {
    private static final String I = " throws java.lang.IndexOutOfBoundsException";
    private static final String A = ",java.lang.IllegalArgumentException";
    private static final String S = ",java.lang.IllegalStateException";
    private static final String ARGUMENT_FIRST = " throws java.lang.IllegalArgumentException" + S;

    private static final String[] METHODS = {
        "int client(int,int)" + ARGUMENT_FIRST,
        "void move(int,int,int)" + I + A,
        "int clients()",
        "int layer(int,int,int)" + ARGUMENT_FIRST,
        "int rank(int,int)" + I + A,
        "int layers()",
        "int layerAt(int)" + I,
        "boolean applies(int,int)" + I,
        "int set(int,int,int,int)" + I + A + S,
        "int template(int,int,int,int,int,int)" + I + A + S,
        "int remove(int,int,int)" + I + A + S,
        "boolean has(int,int)" + I,
        "void roll(int,int,int,int)" + I + A + S,
        "void rollTemplate(int,int,int,int,int,int)" + I + A + S,
        "int advance(int,int,int,int)" + I + A + S,
        "int abort(int,int,int)" + I + A + S,
        "int shareOf(int,int)" + I,
        "int lock(int,int,int)" + I + A + S,
        "int unlock(int,int,int)" + I + A + S,
        "boolean isLocked(int,int,int)" + I + A,
        "int version()",
        "int changedAt(int,int)" + I,
        "int rollback(int,int)" + I + A + S,
        "long value(int,int)" + I + S,
        "int status(int,int)" + I,
        "int culprit(int,int)" + I,
        "int layerOf(int,int)" + I,
        "boolean isNew(int,int)" + I,
        "int uses(int,int)" + I,
        "int found(int)" + I,
        "int differ(int,int)" + I,
        "int statusAt(int,int,int)" + I,
        "long valueAt(int,int,int)" + I + S
    };

    private static final String[] CONSTANTS = {
        "NONE=-1", "EVERYONE=0", "REGION=1", "GROUP=2", "CLIENT=3", "FOUND=0", "MISSING=1", "CYCLE=2"
    };

    private static void constants() throws IllegalAccessException {
        Set<String> got = new HashSet<>();
        for (Field field : ConfigBeacon.class.getDeclaredFields()) {
            int modifiers = field.getModifiers();
            if (Modifier.isPublic(modifiers)) {
                Check.due(field.getName() + " is a constant of type int",
                        Modifier.isStatic(modifiers) && Modifier.isFinal(modifiers)
                                && field.getType() == int.class, true);
                got.add(field.getName() + "=" + field.getInt(null));
            } else {
                Check.due(field.getName() + " is private", Modifier.isPrivate(modifiers), true);
            }
        }
        Check.due("the constants", got, new HashSet<>(java.util.List.of(CONSTANTS)));
    }

    private static void methods() {
        Set<String> got = new HashSet<>();
        Set<String> names = new HashSet<>();
        for (Method method : ConfigBeacon.class.getDeclaredMethods()) {
            if (Modifier.isPublic(method.getModifiers())) {
                got.add(method.toGenericString().replace("public ", "").replace("ConfigBeacon.", ""));
                names.add(method.getName());
            }
        }
        Check.due("the methods", got, new HashSet<>(java.util.List.of(METHODS)));
        for (Method method : ConfigBeacon.class.getDeclaredMethods()) {
            if (!Modifier.isPublic(method.getModifiers())) {
                Check.due(method + " is private", Modifier.isPrivate(method.getModifiers()), true);
                Check.due(method + " has a public one's name", names.contains(method.getName()), false);
            }
        }
    }

    private static void theClass() {
        Check.due("the class is public and final", ConfigBeacon.class.getModifiers(),
                Modifier.PUBLIC | Modifier.FINAL);
        Constructor<?>[] all = ConfigBeacon.class.getDeclaredConstructors();
        Check.due("the constructors", all.length, 1);
        Check.due("the constructor", all[0].toGenericString(), "public ConfigBeacon()");
        for (Class<?> inside : ConfigBeacon.class.getDeclaredClasses()) {
            Check.due(inside + " is private and static",
                    Modifier.isPrivate(inside.getModifiers()) && Modifier.isStatic(inside.getModifiers()), true);
        }
    }

    public static void main(String[] args) throws IllegalAccessException {
        theClass();
        constants();
        methods();
        Check.end("FaceTest");
    }
}
