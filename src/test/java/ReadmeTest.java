import java.io.IOException;
import java.lang.reflect.Method;
import java.nio.file.Files;
import java.nio.file.Path;
import java.util.ArrayList;
import java.util.List;
import java.util.Set;
import java.util.TreeSet;
import java.util.regex.Matcher;
import java.util.regex.Pattern;
import java.util.stream.Stream;

/**
 * README.md itself: makes the calls that it shows and compares what it says they answer; its
 * commands must be those of .ci/run, its list of tests those that there are.
 */
public final class ReadmeTest {
    private static final Pattern NEW = Pattern.compile("DeedHands x = new DeedHands\\(\\);");
    private static final Pattern SIGNS =
        Pattern.compile("for \\(char sign : \"(.+)\"\\.toCharArray\\(\\)\\) x\\.say\\(sign\\);\\s*// (-?\\w+)(:.*)?");
    private static final Pattern CALL = Pattern.compile("x\\.(\\w+)\\(([^)]*)\\);\\s*// (-?\\w+)(:.*)?");
    private static final Pattern LISTED = Pattern.compile("\\| (\\w+Test) \\|.*");
    private static final Check check = new Check();

    private static DeedHands x;
    private static int calls;
    private static final Set<String> shown = new TreeSet<>();
    private static final Set<String> named = new TreeSet<>();

    public static void main(String[] args) throws IOException, ReflectiveOperationException {
        List<String> page = Files.readAllLines(Path.of("README.md"));
        for (String line : block(page, "java")) {
            line(line);
        }
        check.due("each method is shown: " + shown, shown.equals(face()) ? 1 : 0, 1);
        check.due("each constant is shown: " + named, named.equals(constants()) ? 1 : 0, 1);
        check.due("an object is used for at most 512 calls", calls <= 512 ? 1 : 0, 1);
        commands(block(page, "sh"));
        listed(page);
        check.end("ReadmeTest");
    }

    /** The lines of all blocks of that kind, without empty ones. */
    private static List<String> block(List<String> page, String kind) {
        List<String> lines = new ArrayList<>();
        boolean within = false;
        for (String line : page) {
            if (line.startsWith("```")) {
                within = line.equals("```" + kind);
            } else if (within && !line.isBlank()) {
                lines.add(line);
            }
        }
        return lines;
    }

    private static void line(String line) throws ReflectiveOperationException {
        Matcher signs = SIGNS.matcher(line);
        Matcher call = CALL.matcher(line);
        if (NEW.matcher(line).matches()) {
            x = new DeedHands();
            calls = 0;
        } else if (signs.matches()) {
            int answer = 0;
            for (char sign : signs.group(1).toCharArray()) {
                answer = x.say(sign);
                calls++;
            }
            check.due(line, answer, number(signs.group(2)));
            shown.add("say");
        } else if (call.matches()) {
            check.due(line, answer(call.group(1), call.group(2)), number(call.group(3)));
            calls++;
            shown.add(call.group(1));
        } else {
            check.due("a line that is no call with its answer: " + line, 0, 1);
        }
    }

    private static int answer(String name, String list) throws ReflectiveOperationException {
        String[] parts = list.isEmpty() ? new String[0] : list.split(", ");
        Class<?>[] types = new Class<?>[parts.length];
        Object[] values = new Object[parts.length];
        for (int i = 0; i < parts.length; i++) {
            types[i] = int.class;
            values[i] = parts[i].startsWith("'") ? parts[i].charAt(1) : Integer.parseInt(parts[i]);
        }
        return (int) DeedHands.class.getMethod(name, types).invoke(x, values);
    }

    private static int number(String word) throws ReflectiveOperationException {
        if (Character.isLetter(word.charAt(0))) {
            named.add(word);
            return DeedHands.class.getField(word).getInt(null);
        }
        return Integer.parseInt(word);
    }

    private static Set<String> face() {
        Set<String> names = new TreeSet<>();
        for (Method method : DeedHands.class.getMethods()) {
            if (method.getDeclaringClass() == DeedHands.class) {
                names.add(method.getName());
            }
        }
        return names;
    }

    private static Set<String> constants() {
        Set<String> names = new TreeSet<>();
        for (var field : DeedHands.class.getFields()) {
            names.add(field.getName());
        }
        return names;
    }

    private static void commands(List<String> lines) throws IOException {
        check.due("README.md names .ci/run", lines.contains(".ci/run") ? 1 : 0, 1);
        check.due(".ci/run can be run", Files.isExecutable(Path.of(".ci/run")) ? 1 : 0, 1);
        List<String> script = new ArrayList<>();
        for (String line : Files.readAllLines(Path.of(".ci/run"))) {
            script.add(line.strip());
        }
        Set<String> due = new TreeSet<>(script);
        due.removeIf(line -> !line.startsWith("java"));
        Set<String> said = new TreeSet<>(lines);
        said.removeIf(line -> !line.startsWith("java"));
        check.due("the commands " + said, said.equals(due) ? 1 : 0, 1);
        check.due("where they put what they make", script.contains(lines.get(1)) ? 1 : 0, 1);
    }

    private static void listed(List<String> page) throws IOException {
        Set<String> said = new TreeSet<>();
        for (String line : page) {
            Matcher one = LISTED.matcher(line);
            if (one.matches()) {
                check.due(line + " once", said.add(one.group(1)) ? 1 : 0, 1);
            }
        }
        Set<String> due = new TreeSet<>();
        try (Stream<Path> files = Files.list(Path.of("src/test/java"))) {
            files.map(file -> file.getFileName().toString()).filter(name -> name.endsWith("Test.java"))
                .forEach(name -> due.add(name.substring(0, name.length() - ".java".length())));
        }
        check.due("the tests " + said, said.equals(due) ? 1 : 0, 1);
    }
}
