import com.sun.source.tree.ClassTree;
import com.sun.source.tree.CompilationUnitTree;
import com.sun.source.tree.LineMap;
import com.sun.source.tree.MethodInvocationTree;
import com.sun.source.tree.MethodTree;
import com.sun.source.tree.NewClassTree;
import com.sun.source.tree.Tree;
import com.sun.source.tree.VariableTree;
import com.sun.source.util.JavacTask;
import com.sun.source.util.TreePathScanner;
import com.sun.source.util.Trees;
import java.io.IOException;
import java.nio.file.Path;
import java.util.EnumSet;
import java.util.HashMap;
import java.util.HashSet;
import java.util.List;
import java.util.Map;
import java.util.Set;
import javax.lang.model.element.Element;
import javax.lang.model.element.ElementKind;
import javax.lang.model.element.Modifier;
import javax.lang.model.element.TypeElement;
import javax.tools.JavaCompiler;
import javax.tools.StandardJavaFileManager;
import javax.tools.ToolProvider;

/** What LANGUAGE.md rules and the source's syntax tree shows; it is run from the project's folder. */
public final class LanguageTest extends TreePathScanner<Void, Void> {
    private static final Path SOURCE = Path.of("src/main/java/CharmBracelets.java");
    private static final Set<Tree.Kind> FORBIDDEN = EnumSet.of(Tree.Kind.PACKAGE, Tree.Kind.IMPORT, Tree.Kind.THROW,
            Tree.Kind.TRY, Tree.Kind.CATCH, Tree.Kind.SYNCHRONIZED, Tree.Kind.ASSERT, Tree.Kind.LAMBDA_EXPRESSION,
            Tree.Kind.MEMBER_REFERENCE);
    // What the class uses of what rule 4 lists; super() of a class without another one is Object's.
    private static final Set<String> LIBRARY = Set.of("java.lang.Object.<init>", "java.lang.System.arraycopy",
            "java.lang.Math.abs", "java.lang.Math.min", "java.lang.Integer.bitCount");
    private static final int MOST_PARAMETERS = 7;
    private static final int MOST_LINES = 60;
    private static final int MOST_DEEP = 8;
    private static final int MOST_CLASSES = 12;
    private static final int MOST_FIELDS = 20;

    private static final Check check = new Check();

    private final Trees trees;
    private final CompilationUnitTree unit;
    private final Map<Element, Set<Element>> calls = new HashMap<>();
    private final Set<Element> classes = new HashSet<>();

    private LanguageTest(Trees trees, CompilationUnitTree unit) {
        this.trees = trees;
        this.unit = unit;
    }

    public static void main(String[] args) throws IOException {
        JavaCompiler compiler = ToolProvider.getSystemJavaCompiler();
        try (StandardJavaFileManager files = compiler.getStandardFileManager(null, null, null)) {
            JavacTask task = (JavacTask) compiler.getTask(null, files, null, List.of("--release", "17", "-proc:none"), null,
                    files.getJavaFileObjects(SOURCE));
            CompilationUnitTree unit = task.parse().iterator().next();
            task.analyze();
            new LanguageTest(Trees.instance(task), unit).all();
        }
        check.finish();
    }

    private void all() {
        scan(unit, null);
        rule("11: classes", classes.size() <= MOST_CLASSES);
        rule("methods were found", calls.size() > 40);
        for (Element method : calls.keySet()) {
            int depth = depth(method, new HashSet<>());
            rule("11: calls go " + depth + " deep from " + method, depth <= MOST_DEEP);
        }
    }

    private static void rule(String rule, boolean kept) {
        check.due("rule " + rule, kept ? 1 : 0, 1);
    }

    /** How many calls stand open at most, this one counted; the class has no recursion. */
    private int depth(Element method, Set<Element> open) {
        if (!open.add(method)) {
            rule("8: no recursion of " + method, false);
            return 0;
        }
        int deepest = 0;
        for (Element called : calls.getOrDefault(method, Set.of())) {
            deepest = Math.max(deepest, depth(called, open));
        }
        open.remove(method);
        return deepest + 1;
    }

    @Override
    public Void scan(Tree tree, Void none) {
        if (tree != null) {
            rule("1, 2, 6: no " + tree.getKind() + " at " + line(tree), !FORBIDDEN.contains(tree.getKind()));
        }
        return super.scan(tree, none);
    }

    private long line(Tree tree) {
        return unit.getLineMap().getLineNumber(trees.getSourcePositions().getStartPosition(unit, tree));
    }

    @Override
    public Void visitClass(ClassTree tree, Void none) {
        Element element = trees.getElement(getCurrentPath());
        classes.add(element);
        boolean outer = getCurrentPath().getParentPath().getLeaf() == unit;
        boolean member = outer || getCurrentPath().getParentPath().getLeaf() instanceof ClassTree;
        rule("2: no local or anonymous class: " + element, member);
        rule("2: static inside: " + element, outer || element.getModifiers().contains(Modifier.STATIC));
        int fields = 0;
        for (Element part : element.getEnclosedElements()) {
            boolean constant = part.getModifiers().contains(Modifier.STATIC);
            fields += part.getKind() == ElementKind.FIELD && !constant ? 1 : 0;
            rule("5: static fields are final: " + part, part.getKind() != ElementKind.FIELD || !constant
                    || part.getModifiers().contains(Modifier.FINAL));
        }
        rule("11: fields of " + element, fields <= MOST_FIELDS);
        for (Tree part : tree.getMembers()) {
            rule("5: no initialiser block at " + line(part), part.getKind() != Tree.Kind.BLOCK);
        }
        return super.visitClass(tree, none);
    }

    @Override
    public Void visitMethod(MethodTree tree, Void none) {
        Element element = trees.getElement(getCurrentPath());
        calls.putIfAbsent(element, new HashSet<>());
        rule("11: parameters of " + element, tree.getParameters().size() <= MOST_PARAMETERS);
        rule("6: " + element + " throws", tree.getThrows().isEmpty());
        LineMap lines = unit.getLineMap();
        // A constructor that javac adds has no end.
        long end = trees.getSourcePositions().getEndPosition(unit, tree);
        rule("11: lines of " + element, end < 0 || lines.getLineNumber(end) - line(tree) < MOST_LINES);
        return super.visitMethod(tree, none);
    }

    @Override
    public Void visitMethodInvocation(MethodInvocationTree tree, Void none) {
        called(trees.getElement(getCurrentPath()), line(tree));
        return super.visitMethodInvocation(tree, none);
    }

    @Override
    public Void visitNewClass(NewClassTree tree, Void none) {
        called(trees.getElement(getCurrentPath()), line(tree));
        return super.visitNewClass(tree, none);
    }

    private void called(Element method, long line) {
        TypeElement owner = (TypeElement) method.getEnclosingElement();
        if (!owner.getQualifiedName().toString().startsWith("CharmBracelets")) {
            String name = owner.getQualifiedName() + "." + method.getSimpleName();
            rule("4: " + name + " at " + line, LIBRARY.contains(name));
            return;
        }
        for (Element caller : callers()) {
            calls.computeIfAbsent(caller, unknown -> new HashSet<>()).add(method);
        }
    }

    /** The method around a call; around a call in a field's value it is each constructor of its class. */
    private Set<Element> callers() {
        for (var path = getCurrentPath(); path != null; path = path.getParentPath()) {
            if (path.getLeaf() instanceof MethodTree) {
                return Set.of(trees.getElement(path));
            }
            if (path.getLeaf() instanceof ClassTree) {
                Set<Element> constructors = new HashSet<>(trees.getElement(path).getEnclosedElements());
                constructors.removeIf(part -> part.getKind() != ElementKind.CONSTRUCTOR);
                return constructors;
            }
        }
        return Set.of();
    }

    @Override
    public Void visitVariable(VariableTree tree, Void none) {
        boolean constant = tree.getModifiers().getFlags().contains(Modifier.STATIC);
        String type = String.valueOf(tree.getType());
        rule("5: the constant " + tree.getName() + " is of the type " + type,
                !constant || Set.of("int", "long", "boolean", "char", "String", "int[]", "long[]").contains(type));
        return super.visitVariable(tree, none);
    }
}
