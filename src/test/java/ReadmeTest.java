import java.io.IOException;
import java.lang.reflect.Method;
import java.lang.reflect.Modifier;
import java.nio.file.Files;
import java.nio.file.Path;
import java.util.ArrayList;
import java.util.Arrays;
import java.util.List;
import java.util.Set;
import java.util.TreeSet;
import java.util.regex.Matcher;
import java.util.regex.Pattern;
import java.util.stream.Collectors;
import java.util.stream.Stream;

/** What README.md says of the calls and of the tests is so. */
public final class ReadmeTest {
    private static final Path README = Path.of("README.md");
    private static final Path TESTS = Path.of("src/test/java");
    private static final Pattern MADE = Pattern.compile("BreakLines piece = new BreakLines\\((\\d+), (\\d+)\\);.*");
    private static final Pattern CALLED = Pattern.compile("piece\\.(\\w+)\\((.*?)\\);\\s*// (-?\\d+|true|false)(:.*)?");
    private static final Pattern IN_TABLE = Pattern.compile("\\| `(\\w+ \\w+\\(.*?\\))` \\|.*");
    private static final Pattern IN_LIST = Pattern.compile("- `(\\w+Test)`: .*");

    private static int wrong = 0;

    private ReadmeTest() {
    }

    private static void due(String what, Object got, Object want) {
        if (!got.equals(want)) {
            wrong++;
            System.out.println("README.md, " + what + ": it is " + got + ", due is " + want);
        }
    }

    private static void example(List<String> lines) throws ReflectiveOperationException {
        int at = lines.indexOf("```java") + 1;
        Matcher made = MADE.matcher(lines.get(at));
        due("the example begins with a new object", made.matches(), true);
        BreakLines piece = new BreakLines(Integer.parseInt(made.group(1)), Integer.parseInt(made.group(2)));
        Set<String> asked = new TreeSet<>();
        for (String line : lines.subList(at + 1, at + lines.subList(at, lines.size()).indexOf("```"))) {
            Matcher called = CALLED.matcher(line);
            due("a call and its answer in " + line, called.matches(), true);
            Method method = methodOf(called.group(1));
            String answer = String.valueOf(method.invoke(piece, valuesOf(method, called.group(2))));
            due(line, answer, called.group(3));
            asked.add(method.getName());
        }
        due("the example has every call", asked, calls().stream().map(Method::getName)
                .collect(Collectors.toCollection(TreeSet::new)));
    }

    private static List<Method> calls() {
        return Arrays.stream(BreakLines.class.getDeclaredMethods())
                .filter(method -> Modifier.isPublic(method.getModifiers())).toList();
    }

    private static Method methodOf(String name) {
        return calls().stream().filter(method -> method.getName().equals(name)).findAny().orElseThrow();
    }

    private static Object[] valuesOf(Method method, String words) {
        List<Object> values = new ArrayList<>();
        for (String word : words.isEmpty() ? new String[0] : words.split(", ")) {
            boolean isBoolean = method.getParameterTypes()[values.size()] == boolean.class;
            values.add(isBoolean ? (Object) Boolean.valueOf(word) : Integer.valueOf(word));
        }
        return values.toArray();
    }

    private static void table(List<String> lines) {
        Set<String> told = new TreeSet<>();
        for (String call : firstGroups(IN_TABLE, lines)) {
            told.add(call.replaceAll("(int|boolean) \\w+([,)])", "$1$2"));
        }
        Set<String> want = new TreeSet<>();
        for (Method method : calls()) {
            String types = Arrays.stream(method.getParameterTypes()).map(Class::getName)
                    .collect(Collectors.joining(", "));
            want.add(method.getReturnType() + " " + method.getName() + "(" + types + ")");
        }
        due("the table of calls", told, want);
    }

    private static void tests(List<String> lines) throws IOException {
        Set<String> want = new TreeSet<>();
        try (Stream<Path> files = Files.list(TESTS)) {
            files.forEach(file -> want.add(file.getFileName().toString().replace(".java", "")));
        }
        due("the list of tests", new TreeSet<>(firstGroups(IN_LIST, lines)), want);
    }

    private static List<String> firstGroups(Pattern pattern, List<String> lines) {
        List<String> found = new ArrayList<>();
        for (String line : lines) {
            Matcher matcher = pattern.matcher(line);
            if (matcher.matches()) {
                found.add(matcher.group(1));
            }
        }
        return found;
    }

    public static void main(String[] args) throws IOException, ReflectiveOperationException {
        List<String> lines = Files.readAllLines(README);
        example(lines);
        table(lines);
        tests(lines);
        System.out.println(wrong == 0 ? "what README.md says is so" : wrong + " faults");
        if (wrong != 0) {
            System.exit(1);
        }
    }
}
