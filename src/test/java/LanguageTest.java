import java.io.IOException;
import java.lang.reflect.Constructor;
import java.lang.reflect.Field;
import java.lang.reflect.Method;
import java.lang.reflect.Modifier;
import java.nio.file.Files;
import java.nio.file.Path;
import java.util.Arrays;
import java.util.List;
import java.util.Set;
import java.util.TreeSet;
import java.util.regex.Matcher;
import java.util.regex.Pattern;

/** The class keeps to the document's face and to what can be checked of LANGUAGE.md. */
public final class LanguageTest {
    private static final Path SOURCE = Path.of("src/main/java/BreakLines.java");
    private static final List<String> FACE = List.of(
            "public boolean ends(int)", "public int bar(int, int)", "public int bars()",
            "public int change(int, int, int)", "public int cost(int, int)", "public int count(int)",
            "public int line(int, int)", "public int lines()", "public int mark(int, int, boolean)",
            "public int page(int, int)", "public int pages()", "public int set(int, int)",
            "public int size(int, int)", "public long badness(int, int)", "public long sum()",
            "public long would(int, int)");
    private static final List<String> NOT_IN_SOURCE = List.of(
            "\\bthrow\\b", "\\bthrows\\b", "\\btry\\b", "\\bcatch\\b", "\\bsynchronized\\b",
            "\\bassert\\b", "\\bimport\\b", "\\bpackage\\b", "->", "::", "\\w+Exact\\b",
            "\\bSystem\\b", "\\bThread\\b", "static \\{", "\\bprotected\\b");

    private static int wrong = 0;

    private LanguageTest() {
    }

    private static void check(boolean holds, String what) {
        if (!holds) {
            wrong++;
            System.out.println("does not hold: " + what);
        }
    }

    private static String describe(Method method) {
        String types = Arrays.toString(method.getParameterTypes());
        return "public " + method.getReturnType() + " " + method.getName()
                + "(" + types.substring(1, types.length() - 1) + ")";
    }

    private static void face() {
        Class<BreakLines> c = BreakLines.class;
        check(c.getModifiers() == (Modifier.PUBLIC | Modifier.FINAL), "public final class");
        Set<String> methods = new TreeSet<>();
        Set<String> publicNames = new TreeSet<>();
        for (Method method : c.getDeclaredMethods()) {
            if (Modifier.isPublic(method.getModifiers())) {
                methods.add(describe(method));
                publicNames.add(method.getName());
            }
        }
        check(methods.equals(new TreeSet<>(FACE)), "the public methods are the document's: " + methods);
        onlyPrivateBeside(c, publicNames);
        Constructor<?>[] made = c.getDeclaredConstructors();
        check(made.length == 1 && Modifier.isPublic(made[0].getModifiers())
                && Arrays.equals(made[0].getParameterTypes(), new Class<?>[] {int.class, int.class}),
                "one public constructor of two ints");
        for (Class<?> inside : c.getDeclaredClasses()) {
            check(Modifier.isStatic(inside.getModifiers()), inside + " is static");
            check(!Modifier.isPublic(inside.getModifiers()), inside + " is not public");
            staticIsFinal(inside);
        }
    }

    private static void onlyPrivateBeside(Class<?> c, Set<String> publicNames) {
        for (Method method : c.getDeclaredMethods()) {
            if (!Modifier.isPublic(method.getModifiers())) {
                check(Modifier.isPrivate(method.getModifiers()), method + " is private");
                check(!publicNames.contains(method.getName()), method + " has a name of its own");
            }
        }
        for (Field field : c.getDeclaredFields()) {
            boolean nothing = field.getName().equals("NOTHING");
            int want = nothing ? Modifier.PUBLIC : Modifier.PRIVATE;
            check((field.getModifiers() & want) != 0, field + " is seen as it should be");
        }
        staticIsFinal(c);
    }

    private static void staticIsFinal(Class<?> c) {
        for (Field field : c.getDeclaredFields()) {
            int modifiers = field.getModifiers();
            check(!Modifier.isStatic(modifiers) || Modifier.isFinal(modifiers), field + " is final");
        }
    }

    private static void source() throws IOException {
        String text = Files.readString(SOURCE);
        String code = text.replaceAll("(?s)/\\*.*?\\*/", "").replaceAll("//[^\n]*", "");
        for (String pattern : NOT_IN_SOURCE) {
            Matcher matcher = Pattern.compile(pattern).matcher(code);
            check(!matcher.find(), "no " + pattern + " in the class");
        }
        check(text.chars().allMatch(c -> c < 256), "characters 0 to 255 alone");
    }

    public static void main(String[] args) throws IOException {
        face();
        source();
        System.out.println(wrong == 0 ? "the face and the language are kept" : wrong + " faults");
        if (wrong != 0) {
            System.exit(1);
        }
    }
}
