import java.io.IOException;
import java.lang.reflect.Constructor;
import java.lang.reflect.Field;
import java.lang.reflect.Method;
import java.lang.reflect.Modifier;
import java.nio.file.Files;
import java.nio.file.Path;
import java.util.ArrayList;
import java.util.List;
import java.util.Set;
import java.util.TreeSet;
import java.util.regex.Matcher;
import java.util.regex.Pattern;

/**
 * The rules of LANGUAGE.md that can be seen in the source or in the compiled class. The class is held
 * to less than the rules leave: it needs no exception, no list, no text and no object made by a call.
 */
public final class LanguageTest {
    private static final Pattern TYPE = Pattern.compile("\\b[A-Z]\\w*[a-z]\\w*\\b");
    private static final Pattern MATH = Pattern.compile("Math\\.(\\w+)");
    private static final Pattern DIVISOR = Pattern.compile("[/%]=?\\s*([\\w(]+)");
    private static final Pattern LOOP = Pattern.compile("for \\(([^;]*);([^;]*);(.*)\\) \\{");
    private static final Pattern MADE = Pattern.compile("private final [\\w\\[\\]]+ \\w+ = new .*;");
    private static final Pattern METHOD = Pattern.compile("    (    )?[\\w\\[\\] ]+\\([^;]*\\) \\{");
    private static final Check check = new Check();

    public static void main(String[] args) throws IOException {
        String source = plain(Files.readString(Path.of("src/main/java/DeedHands.java")));
        List<Class<?>> classes = classes();
        words(source);
        types(source, classes);
        divisors(source);
        loops(source);
        made(source);
        methodsAreShort(source);
        classesAreSmall(classes);
        staticFields(classes);
        check.end("LanguageTest");
    }

    /** The source without comments, texts and signs. */
    private static String plain(String source) {
        return source.replaceAll("(?s)/\\*.*?\\*/", "").replaceAll("//.*", "")
            .replaceAll("\"[^\"]*\"", "\"\"").replaceAll("'[^']'", "' '");
    }

    private static List<Class<?>> classes() {
        List<Class<?>> all = new ArrayList<>(List.of(DeedHands.class.getDeclaredClasses()));
        all.add(DeedHands.class);
        return all;
    }

    /** Rules 2, 3, 6 and 10: what must not stand in it, or what it does without. */
    private static void words(String source) {
        for (String word : List.of("package", "import", "throw", "throws", "try", "catch", "finally", "synchronized",
            "assert", "instanceof", "while", "do", "var", "long", "double", "float", "native", "volatile",
            "transient", "strictfp", "goto", "yield", "sealed", "record", "enum", "interface", "extends",
            "implements", "null")) {
            check.due("the word " + word, Pattern.compile("\\b" + word + "\\b").matcher(source).find() ? 1 : 0, 0);
        }
        for (String sign : List.of("->", "::", "...", "@", "\"")) {
            check.due("the sign " + sign, source.contains(sign) ? 1 : 0, 0);
        }
    }

    /** Rules 3 and 4: no type but its own classes, and of the library only Math's lesser and greater one. */
    private static void types(String source, List<Class<?>> classes) {
        Set<String> known = new TreeSet<>(Set.of("Math"));
        for (Class<?> one : classes) {
            known.add(one.getSimpleName());
        }
        Matcher type = TYPE.matcher(source);
        while (type.find()) {
            check.due("the type " + type.group(), known.contains(type.group()) ? 1 : 0, 1);
        }
        Matcher math = MATH.matcher(source);
        while (math.find()) {
            check.due("Math." + math.group(1), Set.of("min", "max").contains(math.group(1)) ? 1 : 0, 1);
        }
    }

    /** Rule 7: nothing divides but by a constant. */
    private static void divisors(String source) {
        Matcher divisor = DIVISOR.matcher(source);
        while (divisor.find()) {
            check.due("the divisor " + divisor.group(1), divisor.group(1).matches("[A-Z]+|[1-9]\\d*") ? 1 : 0, 1);
        }
    }

    /** Rule 9: each loop counts one up or down and looks at a bound. */
    private static void loops(String source) {
        int many = 0;
        Matcher loop = LOOP.matcher(source);
        while (loop.find()) {
            many++;
            check.due("its bound: " + loop.group(), loop.group(2).matches(".*(<|<=|>=) .*") ? 1 : 0, 1);
            check.due("its counter: " + loop.group(), loop.group(3).matches(" \\w+(\\+\\+|--)") ? 1 : 0, 1);
        }
        check.due("all loops are seen", many, source.split("\\bfor \\(", -1).length - 1);
    }

    /** Rule 12: what is made is made with its object, by no call. */
    private static void made(String source) {
        for (String line : source.split("\n")) {
            if (line.contains("new ")) {
                check.due("made by a call: " + line, MADE.matcher(line.strip()).matches() ? 1 : 0, 1);
            }
        }
    }

    /** Rule 11: some sixty lines a method. */
    private static void methodsAreShort(String source) {
        String[] lines = source.split("\n", -1);
        int methods = 0;
        for (int i = 0; i < lines.length; i++) {
            if (METHOD.matcher(lines[i]).matches()) {
                String end = lines[i].substring(0, lines[i].length() - lines[i].stripLeading().length()) + "}";
                int last = i;
                while (last < lines.length && !lines[last].equals(end)) {
                    last++;
                }
                check.due(lines[i] + " is short", last - i < 60 ? 1 : 0, 1);
                methods++;
            }
        }
        check.due("methods are seen", methods > 80 ? 1 : methods, 1);
    }

    /** Rule 11: some twelve classes, twenty fields, seven parameters. */
    private static void classesAreSmall(List<Class<?>> classes) {
        check.due("classes", classes.size() <= 12 ? 1 : 0, 1);
        for (Class<?> one : classes) {
            int fields = 0;
            for (Field field : one.getDeclaredFields()) {
                fields += Modifier.isStatic(field.getModifiers()) ? 0 : 1;
            }
            check.due("fields of " + one, fields <= 20 ? 1 : 0, 1);
            for (Method method : one.getDeclaredMethods()) {
                check.due("parameters of " + method, method.getParameterCount() <= 7 ? 1 : 0, 1);
            }
            for (Constructor<?> made : one.getDeclaredConstructors()) {
                check.due("parameters of " + made, made.getParameterCount() <= 7 ? 1 : 0, 1);
            }
            check.due("no class deeper in " + one, one == DeedHands.class ? 0 : one.getDeclaredClasses().length, 0);
        }
    }

    /** Rule 5: static fields are constants, so that objects share nothing that changes. */
    private static void staticFields(List<Class<?>> classes) {
        for (Class<?> one : classes) {
            for (Field field : one.getDeclaredFields()) {
                if (Modifier.isStatic(field.getModifiers())) {
                    check.due(field + " is final", Modifier.isFinal(field.getModifiers()) ? 1 : 0, 1);
                    check.due(field + " is an int", field.getType() == int.class ? 1 : 0, 1);
                }
            }
        }
    }
}
