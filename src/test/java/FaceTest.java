import java.lang.reflect.Constructor;
import java.lang.reflect.Field;
import java.lang.reflect.Method;
import java.lang.reflect.Modifier;
import java.util.Arrays;
import java.util.Set;
import java.util.TreeSet;

/** The public face as the document has it, and the first rule of LANGUAGE.md. */
public final class FaceTest {
    private static final Check check = new Check();
    private static final Set<String> FACE = Set.of("say 1", "wipe 0", "fault 1", "text 1", "clause 2", "drop 2",
        "has 1", "reply 1", "mute 0", "run 3", "who 3", "may 2", "often 2", "all 4", "row 6", "apart 7", "told 1");
    private static final Set<String> NUMBERS = Set.of("NONE -6", "UNKNOWN -1", "OUTSIDE -2", "FULL -4", "NO -5");

    public static void main(String[] args) throws IllegalAccessException {
        Class<?> face = DeedHands.class;
        check.due("public and final", face.getModifiers(), Modifier.PUBLIC | Modifier.FINAL);
        Constructor<?>[] made = face.getDeclaredConstructors();
        check.due("one constructor", made.length, 1);
        check.due("without parameters", made[0].getParameterCount(), 0);
        check.due("that is public", made[0].getModifiers(), Modifier.PUBLIC);
        methods(face);
        constants(face);
        for (Class<?> inside : face.getDeclaredClasses()) {
            check.due(inside + " is private and static", inside.getModifiers() & (Modifier.PRIVATE | Modifier.STATIC),
                Modifier.PRIVATE | Modifier.STATIC);
            for (Method method : inside.getDeclaredMethods()) {
                check.due(method + " has a name of its own", bearsFaceName(method) ? 1 : 0, 0);
                check.due(method + " takes seven at most", method.getParameterCount() <= 7 ? 1 : 0, 1);
            }
        }
        check.end("FaceTest");
    }

    private static boolean bearsFaceName(Method method) {
        return FACE.stream().anyMatch(one -> one.startsWith(method.getName() + " "));
    }

    private static void methods(Class<?> face) {
        Set<String> seen = new TreeSet<>();
        for (Method method : face.getDeclaredMethods()) {
            if (Modifier.isPrivate(method.getModifiers())) {
                check.due(method + " has a name of its own", bearsFaceName(method) ? 1 : 0, 0);
                continue;
            }
            check.due(method + " is public alone", method.getModifiers(), Modifier.PUBLIC);
            check.due(method + " answers an int", method.getReturnType() == int.class ? 1 : 0, 1);
            check.due(method + " takes ints",
                Arrays.stream(method.getParameterTypes()).allMatch(type -> type == int.class) ? 1 : 0, 1);
            seen.add(method.getName() + " " + method.getParameterCount());
        }
        check.due("the methods " + seen, seen.equals(FACE) ? 1 : 0, 1);
    }

    private static void constants(Class<?> face) throws IllegalAccessException {
        Set<String> seen = new TreeSet<>();
        for (Field field : face.getDeclaredFields()) {
            if (!Modifier.isPrivate(field.getModifiers())) {
                check.due(field + " is a constant", field.getModifiers(),
                    Modifier.PUBLIC | Modifier.STATIC | Modifier.FINAL);
                seen.add(field.getName() + " " + field.getInt(null));
            }
        }
        check.due("the constants " + seen, seen.equals(NUMBERS) ? 1 : 0, 1);
    }
}
