import java.lang.reflect.Constructor;
import java.lang.reflect.Field;
import java.lang.reflect.Method;
import java.lang.reflect.Modifier;
import java.util.Set;
import java.util.TreeSet;

/** The public face: what the document lists, and no more than that. */
public final class FaceTest {
    private static final String[] METHODS = {"set(int, int)", "point(int, int)", "take(int)", "move(int, int, int)",
        "split(int, boolean)", "putAll()", "of(int, int)", "leafAt(int, int)", "tile(int, int)", "letter(int, int)",
        "beside(int, int, int)", "neighbours(int)", "count(int)", "window(int, int, int, int, int)",
        "nearest(int, int, int)", "ifPut(int, int, int)", "leastFull(int)", "put(long)", "wipe()", "fault()", "undo()",
        "save(int)", "restore(int)"};
    private static final String[] CONSTANTS = {"NO_SUCH = -1", "BAD_VALUE = -2", "BAD_TEXT = -3", "TOO_MANY = -4",
        "NOT_POSSIBLE = -5", "NONE = -6", "FULL = 0", "DEEP = 1"};

    private FaceTest() {
    }

    public static void main(String[] args) throws IllegalAccessException {
        Due.holds("the class is public and final", QuarterTiles.class.getModifiers() == (Modifier.PUBLIC | Modifier.FINAL));
        constructors();
        methods();
        constants();
        classesInside();
        Due.end("FaceTest");
    }

    private static void constructors() {
        Constructor<?>[] constructors = QuarterTiles.class.getDeclaredConstructors();
        Due.is("constructors", constructors.length, 1);
        Due.is("its parameters", constructors[0].getParameterCount(), 0);
        Due.holds("it is public", Modifier.isPublic(constructors[0].getModifiers()));
    }

    private static void methods() {
        Set<String> due = new TreeSet<>(Set.of(METHODS));
        for (Method method : QuarterTiles.class.getDeclaredMethods()) {
            if (Modifier.isPrivate(method.getModifiers())) {
                for (String each : METHODS) {
                    Due.holds(method + " bears no public name", !each.startsWith(method.getName() + "("));
                }
                continue;
            }
            StringBuilder signature = new StringBuilder(method.getName()).append('(');
            for (Class<?> type : method.getParameterTypes()) {
                signature.append(signature.charAt(signature.length() - 1) == '(' ? "" : ", ").append(type.getName());
            }
            Due.holds(method + " is in the face", due.remove(signature.append(')').toString()));
            Due.holds(method + " is public alone", method.getModifiers() == Modifier.PUBLIC);
            Due.holds(method + " answers an int", method.getReturnType() == int.class);
        }
        Due.holds("the methods " + due + " are there", due.isEmpty());
    }

    private static void constants() throws IllegalAccessException {
        Set<String> due = new TreeSet<>(Set.of(CONSTANTS));
        for (Field field : QuarterTiles.class.getDeclaredFields()) {
            if (Modifier.isPrivate(field.getModifiers())) {
                continue;
            }
            Due.holds(field + " is a constant",
                field.getModifiers() == (Modifier.PUBLIC | Modifier.STATIC | Modifier.FINAL) && field.getType() == int.class);
            Due.holds(field + " is in the face", due.remove(field.getName() + " = " + field.getInt(null)));
        }
        Due.holds("the constants " + due + " are there", due.isEmpty());
    }

    private static void classesInside() {
        for (Class<?> inside : QuarterTiles.class.getDeclaredClasses()) {
            Due.holds(inside + " is static", Modifier.isStatic(inside.getModifiers()));
            Due.holds(inside + " is private", Modifier.isPrivate(inside.getModifiers()));
            for (Field field : inside.getDeclaredFields()) {
                Due.holds(field + " is final, if it is static",
                    !Modifier.isStatic(field.getModifiers()) || Modifier.isFinal(field.getModifiers()));
            }
        }
    }
}
