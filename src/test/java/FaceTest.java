import java.io.IOException;
import java.lang.reflect.Constructor;
import java.lang.reflect.Field;
import java.lang.reflect.Method;
import java.lang.reflect.Modifier;
import java.nio.file.Files;
import java.nio.file.Path;
import java.util.Arrays;
import java.util.Set;
import java.util.TreeSet;
import java.util.regex.Matcher;
import java.util.regex.Pattern;

/** The public face as the document has it, and the first rule of LANGUAGE.md. */
public final class FaceTest {
    private static final Check check = new Check();
    private static final Set<String> FACE = Set.of("say 1", "wipe 0", "fault 1", "text 1", "clause 2", "drop 2",
        "has 1", "reply 1", "mute 0", "run 3", "who 3", "may 2", "often 2", "all 4", "row 6", "apart 7", "told 1");
    private static final Set<String> NUMBERS = Set.of("NONE -6", "UNKNOWN -1", "OUTSIDE -2", "FULL -4", "NO -5");

    private static final Pattern METHOD = Pattern.compile("public int (\\w+)\\(([^)]*)\\);");
    private static final Pattern NUMBER = Pattern.compile("\\b([A-Z]+) = (-?\\d+)");
    private static final Pattern HEAD = Pattern.compile("Ahead of the calls (.*) the interface says: (---- .*)\\.");

    public static void main(String[] args) throws IllegalAccessException, IOException {
        Class<?> face = DeedHands.class;
        check.due("public and final", face.getModifiers(), Modifier.PUBLIC | Modifier.FINAL);
        Constructor<?>[] made = face.getDeclaredConstructors();
        check.due("one constructor", made.length, 1);
        check.due("without parameters", made[0].getParameterCount(), 0);
        check.due("that is public", made[0].getModifiers(), Modifier.PUBLIC);
        methods(face);
        constants(face);
        document(Files.readString(Path.of("../shared/DOC.md")));
        for (Class<?> inside : face.getDeclaredClasses()) {
            check.due(inside + " is private and static", inside.getModifiers() & (Modifier.PRIVATE | Modifier.STATIC),
                Modifier.PRIVATE | Modifier.STATIC);
            for (Method method : inside.getDeclaredMethods()) {
                check.due(method + " has a name of its own", bearsFaceName(method) ? 1 : 0, 0);
                check.due(method + " takes seven at most", method.getParameterCount() <= 7 ? 1 : 0, 1);
            }
        }
        check.end("FaceTest");
    }

    private static boolean bearsFaceName(Method method) {
        return FACE.stream().anyMatch(one -> one.startsWith(method.getName() + " "));
    }

    private static void methods(Class<?> face) {
        Set<String> seen = new TreeSet<>();
        for (Method method : face.getDeclaredMethods()) {
            if (Modifier.isPrivate(method.getModifiers())) {
                check.due(method + " has a name of its own", bearsFaceName(method) ? 1 : 0, 0);
                continue;
            }
            check.due(method + " is public alone", method.getModifiers(), Modifier.PUBLIC);
            check.due(method + " answers an int", method.getReturnType() == int.class ? 1 : 0, 1);
            check.due(method + " takes ints",
                Arrays.stream(method.getParameterTypes()).allMatch(type -> type == int.class) ? 1 : 0, 1);
            seen.add(method.getName() + " " + method.getParameterCount());
        }
        check.due("the methods " + seen, seen.equals(FACE) ? 1 : 0, 1);
    }

    private static void constants(Class<?> face) throws IllegalAccessException {
        Set<String> seen = new TreeSet<>();
        for (Field field : face.getDeclaredFields()) {
            if (!Modifier.isPrivate(field.getModifiers())) {
                check.due(field + " is a constant", field.getModifiers(),
                    Modifier.PUBLIC | Modifier.STATIC | Modifier.FINAL);
                seen.add(field.getName() + " " + field.getInt(null));
            }
        }
        check.due("the constants " + seen, seen.equals(NUMBERS) ? 1 : 0, 1);
    }

    /** The face that this test asks for is the one that the document writes. */
    private static void document(String page) throws IOException {
        String written = page.substring(page.indexOf("```java"), page.indexOf("## Terms"));
        Set<String> methods = new TreeSet<>();
        Matcher method = METHOD.matcher(written);
        while (method.find()) {
            int many = method.group(2).isEmpty() ? 0 : method.group(2).split(", ").length;
            methods.add(method.group(1) + " " + many);
        }
        check.due("the document's methods " + methods, methods.equals(FACE) ? 1 : 0, 1);
        Set<String> numbers = new TreeSet<>();
        Matcher number = NUMBER.matcher(written);
        while (number.find()) {
            numbers.add(number.group(1) + " " + number.group(2));
        }
        check.due("the document's constants " + numbers, numbers.equals(NUMBERS) ? 1 : 0, 1);
        heads(page);
    }

    /** "Ahead of the calls .. the interface says": the class has these heads in the same places. */
    private static void heads(String page) throws IOException {
        String source = Files.readString(Path.of("src/main/java/DeedHands.java"));
        int heads = 0;
        int before = 0;
        Matcher head = HEAD.matcher(page);
        while (head.find()) {
            int at = source.indexOf("// " + head.group(2) + "\n");
            check.due(head.group(2) + " comes behind the calls ahead of it", at > before ? 1 : 0, 1);
            before = at;
            for (String name : head.group(1).replace("`", "").split(", ")) {
                int call = source.indexOf("public int " + name + "(");
                check.due(name + " is behind its head and in order", call > before ? 1 : 0, 1);
                before = call;
            }
            heads++;
        }
        check.due("four heads", heads, 4);
    }
}
