import com.sun.source.tree.BinaryTree;
import com.sun.source.tree.BlockTree;
import com.sun.source.tree.ClassTree;
import com.sun.source.tree.CompilationUnitTree;
import com.sun.source.tree.ForLoopTree;
import com.sun.source.tree.IdentifierTree;
import com.sun.source.tree.MemberSelectTree;
import com.sun.source.tree.MethodInvocationTree;
import com.sun.source.tree.MethodTree;
import com.sun.source.tree.NewArrayTree;
import com.sun.source.tree.NewClassTree;
import com.sun.source.tree.StatementTree;
import com.sun.source.tree.Tree;
import com.sun.source.tree.VariableTree;
import com.sun.source.util.JavacTask;
import com.sun.source.util.TreePath;
import com.sun.source.util.TreePathScanner;
import com.sun.source.util.Trees;
import java.io.IOException;
import java.lang.reflect.Constructor;
import java.lang.reflect.Field;
import java.lang.reflect.Method;
import java.lang.reflect.Modifier;
import java.nio.file.Files;
import java.nio.file.Path;
import java.util.ArrayList;
import java.util.Arrays;
import java.util.EnumSet;
import java.util.HashMap;
import java.util.LinkedHashSet;
import java.util.List;
import java.util.Map;
import java.util.Set;
import java.util.TreeSet;
import javax.lang.model.element.Element;
import javax.lang.model.element.ElementKind;
import javax.lang.model.element.TypeElement;
import javax.tools.JavaCompiler;
import javax.tools.StandardJavaFileManager;
import javax.tools.ToolProvider;

/**
 * The class keeps to the document's face and to LANGUAGE.md, by reflection and by the compiler's
 * own tree of it. Where the class needs less than a rule leaves, the test allows less too. Rule 7,
 * that no call throws, is for the other tests to show.
 */
public final class LanguageTest {
    private static final Path SOURCE = Path.of("src/main/java/BreakLines.java");
    private static final List<String> FACE = List.of(
            "public boolean ends(int)", "public int bar(int, int)", "public int bars()",
            "public int change(int, int, int)", "public int cost(int, int)", "public int count(int)",
            "public int line(int, int)", "public int lines()", "public int mark(int, int, boolean)",
            "public int page(int, int)", "public int pages()", "public int set(int, int)",
            "public int size(int, int)", "public long badness(int, int)", "public long sum()",
            "public long would(int, int)");
    private static final Set<String> TYPES = Set.of("int", "long", "boolean", "int[]", "long[]");
    private static final Set<String> CONSTANT_TYPES = Set.of("int", "long");
    private static final Set<String> LIBRARY = Set.of("java.lang.Math.max", "java.lang.Math.min",
            "java.lang.Long.MAX_VALUE", "java.lang.Object.<init>");
    private static final Set<Tree.Kind> FORBIDDEN = EnumSet.of(Tree.Kind.THROW, Tree.Kind.TRY,
            Tree.Kind.CATCH, Tree.Kind.SYNCHRONIZED, Tree.Kind.ASSERT, Tree.Kind.LAMBDA_EXPRESSION,
            Tree.Kind.MEMBER_REFERENCE, Tree.Kind.TYPE_CAST, Tree.Kind.INSTANCE_OF,
            Tree.Kind.STRING_LITERAL, Tree.Kind.WHILE_LOOP, Tree.Kind.DO_WHILE_LOOP,
            Tree.Kind.LABELED_STATEMENT, Tree.Kind.ANNOTATION);
    private static final int MOST_PARAMETERS = 7;
    private static final int MOST_LINES = 60;
    private static final int MOST_OPEN_CALLS = 8;
    private static final int MOST_CLASSES = 12;
    private static final int MOST_FIELDS = 20;

    private static int wrong = 0;

    private LanguageTest() {
    }

    private static void check(boolean holds, String what) {
        if (!holds) {
            wrong++;
            System.out.println("does not hold: " + what);
        }
    }

    // ---- the face

    private static String describe(Method method) {
        String types = Arrays.toString(method.getParameterTypes());
        return "public " + method.getReturnType() + " " + method.getName()
                + "(" + types.substring(1, types.length() - 1) + ")";
    }

    private static void face() {
        Class<BreakLines> c = BreakLines.class;
        check(c.getModifiers() == (Modifier.PUBLIC | Modifier.FINAL), "public final class");
        check(c.getSuperclass() == Object.class && c.getInterfaces().length == 0, "a class by itself");
        Set<String> methods = new TreeSet<>();
        Set<String> publicNames = new TreeSet<>();
        for (Method method : c.getDeclaredMethods()) {
            if (Modifier.isPublic(method.getModifiers())) {
                check(method.getModifiers() == Modifier.PUBLIC, method + " is public and no more");
                check(method.getExceptionTypes().length == 0, method + " tells of no exception");
                methods.add(describe(method));
                publicNames.add(method.getName());
            }
        }
        check(methods.equals(new TreeSet<>(FACE)), "the public methods are the document's: " + methods);
        onlyPrivateBeside(c, publicNames);
        Set<String> made = new TreeSet<>();
        for (Constructor<?> constructor : c.getDeclaredConstructors()) {
            made.add(constructor.toString());
        }
        check(made.equals(Set.of("public BreakLines(int,int)")), "one constructor of two ints: " + made);
        for (Class<?> inside : c.getDeclaredClasses()) {
            classInside(inside, publicNames);
        }
    }

    private static void onlyPrivateBeside(Class<?> c, Set<String> publicNames) {
        for (Method method : c.getDeclaredMethods()) {
            if (!Modifier.isPublic(method.getModifiers())) {
                check(Modifier.isPrivate(method.getModifiers()), method + " is private");
                check(!publicNames.contains(method.getName()), method + " has a name of its own");
            }
        }
        Set<String> seen = new TreeSet<>();
        for (Field field : c.getDeclaredFields()) {
            if (!Modifier.isPrivate(field.getModifiers())) {
                seen.add(field.toString());
            }
        }
        check(seen.equals(Set.of("public static final long BreakLines.NOTHING")), "one constant is seen: " + seen);
        staticIsConstant(c);
    }

    private static void classInside(Class<?> inside, Set<String> publicNames) {
        int modifiers = inside.getModifiers();
        check(Modifier.isStatic(modifiers) && Modifier.isFinal(modifiers), inside + " is static and final");
        check(!Modifier.isPublic(modifiers) && !Modifier.isProtected(modifiers), inside + " is not public");
        for (Method method : inside.getDeclaredMethods()) {
            check(!publicNames.contains(method.getName()), method + " has a name of its own");
        }
        staticIsConstant(inside);
    }

    private static void staticIsConstant(Class<?> c) {
        for (Field field : c.getDeclaredFields()) {
            int modifiers = field.getModifiers();
            if (Modifier.isStatic(modifiers)) {
                check(Modifier.isFinal(modifiers), field + " is final");
                check(CONSTANT_TYPES.contains(field.getType().toString()), field + " is a number");
            }
        }
    }

    // ---- the source

    /** Goes through the whole tree, and notes which of the class's own methods calls which. */
    private static final class Reader extends TreePathScanner<Void, Void> {
        private final CompilationUnitTree unit;
        private final Trees trees;
        private final Map<Element, Set<Element>> calls = new HashMap<>();
        private Element inMethod;
        private int inLoops = 0;
        private int classes = 0;

        Reader(CompilationUnitTree unit, Trees trees) {
            this.unit = unit;
            this.trees = trees;
        }

        private String at(Tree tree) {
            long start = trees.getSourcePositions().getStartPosition(unit, tree);
            return "line " + unit.getLineMap().getLineNumber(start);
        }

        private int linesOf(Tree tree) {
            long start = trees.getSourcePositions().getStartPosition(unit, tree);
            long end = trees.getSourcePositions().getEndPosition(unit, tree);
            return (int) (unit.getLineMap().getLineNumber(end) - unit.getLineMap().getLineNumber(start)) + 1;
        }

        private Element here() {
            return trees.getElement(getCurrentPath());
        }

        @Override
        public Void scan(Tree tree, Void none) {
            if (tree != null) {
                check(!FORBIDDEN.contains(tree.getKind()), at(tree) + ": no " + tree.getKind());
            }
            return super.scan(tree, none);
        }

        @Override
        public Void visitClass(ClassTree tree, Void none) {
            classes++;
            check(tree.getKind() == Tree.Kind.CLASS, at(tree) + ": a plain class");
            Tree around = getCurrentPath().getParentPath().getLeaf();
            check(around.getKind() != Tree.Kind.BLOCK, at(tree) + ": no local class");
            int fields = 0;
            for (Tree member : tree.getMembers()) {
                check(!(member instanceof BlockTree), at(member) + ": no initialiser block");
                if (member instanceof VariableTree field && !isStatic(field)) {
                    fields++;
                }
            }
            check(fields <= MOST_FIELDS, tree.getSimpleName() + " has not too many fields: " + fields);
            return super.visitClass(tree, none);
        }

        private static boolean isStatic(VariableTree field) {
            return field.getModifiers().getFlags().contains(javax.lang.model.element.Modifier.STATIC);
        }

        @Override
        public Void visitMethod(MethodTree tree, Void none) {
            inMethod = here();
            calls.put(inMethod, new LinkedHashSet<>());
            check(tree.getParameters().size() <= MOST_PARAMETERS, tree.getName() + " takes not too much");
            check(linesOf(tree) <= MOST_LINES, tree.getName() + " is short: " + linesOf(tree));
            super.visitMethod(tree, none);
            inMethod = null;
            return null;
        }

        @Override
        public Void visitVariable(VariableTree tree, Void none) {
            String type = trees.getTypeMirror(getCurrentPath()).toString();
            boolean own = type.startsWith("BreakLines.") && !type.endsWith("]");
            check(own || TYPES.contains(type), at(tree) + ": the type " + type);
            return super.visitVariable(tree, none);
        }

        @Override
        public Void visitForLoop(ForLoopTree tree, Void none) {
            boolean counts = tree.getInitializer().size() == 1 && tree.getUpdate().size() == 1
                    && tree.getCondition() instanceof BinaryTree;
            check(counts, at(tree) + ": a counter against a bound");
            if (counts) {
                String counter = ((VariableTree) tree.getInitializer().get(0)).getName().toString();
                String bound = ((BinaryTree) tree.getCondition()).getLeftOperand().toString();
                check(bound.equals(counter), at(tree) + ": the bound is the counter's");
                check(tree.getUpdate().get(0).toString().matches(counter + "(\\+\\+|--);"), at(tree) + ": it counts");
                check(!isWritten(tree.getStatement(), counter), at(tree) + ": nothing else counts");
            }
            inLoops++;
            super.visitForLoop(tree, none);
            inLoops--;
            return null;
        }

        private static boolean isWritten(StatementTree body, String name) {
            String word = "(?s).*\\b" + name + "\\b";
            String text = body.toString();
            return text.matches(word + "\\s*([-+*/%&|^]|<<|>>>?)?=[^=].*") || text.matches(word + "(\\+\\+|--).*")
                    || text.matches("(?s).*(\\+\\+|--)" + name + "\\b.*");
        }

        @Override
        public Void visitMethodInvocation(MethodInvocationTree tree, Void none) {
            noteUse(here(), tree);
            return super.visitMethodInvocation(tree, none);
        }

        @Override
        public Void visitNewClass(NewClassTree tree, Void none) {
            check(tree.getClassBody() == null, at(tree) + ": no anonymous class");
            noteUse(here(), tree);
            isMadeInConstructor(tree);
            return super.visitNewClass(tree, none);
        }

        @Override
        public Void visitNewArray(NewArrayTree tree, Void none) {
            isMadeInConstructor(tree);
            return super.visitNewArray(tree, none);
        }

        private void isMadeInConstructor(Tree tree) {
            check(inMethod != null && inMethod.getKind() == ElementKind.CONSTRUCTOR && inLoops == 0,
                    at(tree) + ": made in a constructor, once");
        }

        @Override
        public Void visitMemberSelect(MemberSelectTree tree, Void none) {
            noteField(here(), tree);
            return super.visitMemberSelect(tree, none);
        }

        @Override
        public Void visitIdentifier(IdentifierTree tree, Void none) {
            noteField(here(), tree);
            return super.visitIdentifier(tree, none);
        }

        private void noteField(Element used, Tree tree) {
            if (used != null && used.getKind() == ElementKind.FIELD) {
                noteUse(used, tree);
            }
        }

        private void noteUse(Element used, Tree tree) {
            TypeElement owner = (TypeElement) used.getEnclosingElement();
            boolean own = owner != null && owner.getQualifiedName().toString().matches("BreakLines(\\..*)?");
            if (!own) {
                String name = (owner == null ? "" : owner.getQualifiedName() + ".") + used.getSimpleName();
                check(LIBRARY.contains(name), at(tree) + ": the library's " + name);
            } else if (used.getKind() != ElementKind.FIELD && inMethod != null) {
                calls.get(inMethod).add(used);
            }
        }

        /** How many calls stand open at once at most, this one's too; a call of itself is a fault. */
        private int openCalls(Element method, List<Element> open) {
            if (open.contains(method)) {
                check(false, method + " does not call itself");
                return 0;
            }
            open.add(method);
            int deepest = 0;
            for (Element called : calls.getOrDefault(method, Set.of())) {
                deepest = Math.max(deepest, openCalls(called, open));
            }
            open.remove(method);
            return deepest + 1;
        }

        void whole() {
            check(classes <= MOST_CLASSES, "not too many classes: " + classes);
            check(calls.size() > FACE.size(), "the methods were found");
            for (Element method : calls.keySet()) {
                int open = openCalls(method, new ArrayList<>());
                check(open <= MOST_OPEN_CALLS, method + " does not go too deep: " + open);
            }
        }
    }

    private static void source() throws IOException {
        JavaCompiler compiler = ToolProvider.getSystemJavaCompiler();
        try (StandardJavaFileManager files = compiler.getStandardFileManager(null, null, null)) {
            JavacTask task = (JavacTask) compiler.getTask(null, files, null, List.of("-proc:none"), null,
                    files.getJavaFileObjects(SOURCE));
            CompilationUnitTree unit = task.parse().iterator().next();
            task.analyze();
            check(unit.getPackage() == null, "no package line");
            check(unit.getImports().isEmpty(), "no import");
            check(unit.getTypeDecls().size() == 1, "one class");
            Reader reader = new Reader(unit, Trees.instance(task));
            reader.scan(new TreePath(unit), null);
            reader.whole();
        }
        check(Files.readString(SOURCE).chars().allMatch(c -> c < 256), "characters 0 to 255 alone");
    }

    public static void main(String[] args) throws IOException {
        face();
        source();
        System.out.println(wrong == 0 ? "the face and the language are kept" : wrong + " faults");
        if (wrong != 0) {
            System.exit(1);
        }
    }
}
