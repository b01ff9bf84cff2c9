import com.sun.source.tree.BlockTree;
import com.sun.source.tree.ClassTree;
import com.sun.source.tree.CompilationUnitTree;
import com.sun.source.tree.ForLoopTree;
import com.sun.source.tree.ImportTree;
import com.sun.source.tree.MethodInvocationTree;
import com.sun.source.tree.MethodTree;
import com.sun.source.tree.NewArrayTree;
import com.sun.source.tree.NewClassTree;
import com.sun.source.tree.Tree;
import com.sun.source.tree.VariableTree;
import com.sun.source.tree.WhileLoopTree;
import com.sun.source.util.JavacTask;
import com.sun.source.util.TreePath;
import com.sun.source.util.TreePathScanner;
import com.sun.source.util.Trees;
import java.io.File;
import java.io.IOException;
import java.util.EnumSet;
import java.util.LinkedHashMap;
import java.util.LinkedHashSet;
import java.util.Map;
import java.util.Set;
import java.util.TreeSet;
import javax.lang.model.element.Element;
import javax.lang.model.element.Modifier;
import javax.tools.JavaCompiler;
import javax.tools.StandardJavaFileManager;
import javax.tools.ToolProvider;

/**
 * LANGUAGE.md, as far as a look at the program's text can tell: what may not stand there, the library, the
 * limits of rule 11, no recursion, and objects in constructors alone, so that no call makes one.
 */
final class LanguageTest extends TreePathScanner<Void, Void> {
    private static final Check CHECK = new Check("LanguageTest");
    private static final String PROGRAM = "src/main/java/LendingDisk.java";

    /** The document has no exception, so that throw and try have no place either. */
    private static final Set<Tree.Kind> REFUSED = EnumSet.of(Tree.Kind.PACKAGE, Tree.Kind.LAMBDA_EXPRESSION,
        Tree.Kind.MEMBER_REFERENCE, Tree.Kind.SYNCHRONIZED, Tree.Kind.ASSERT, Tree.Kind.THROW, Tree.Kind.TRY,
        Tree.Kind.BINDING_PATTERN, Tree.Kind.ANNOTATION_TYPE, Tree.Kind.INTERSECTION_TYPE, Tree.Kind.UNION_TYPE);
    private static final Set<String> IMPORTS = Set.of("java.util.ArrayList", "java.util.List", "java.util.Arrays",
        "java.util.Iterator");
    private static final Map<String, Set<String>> LIBRARY = Map.of(
        "java.lang.String", Set.of("length", "charAt", "isEmpty", "equals", "indexOf", "substring", "toCharArray"),
        "java.lang.StringBuilder", Set.of("append", "charAt", "setCharAt", "setLength", "deleteCharAt", "reverse", "length",
            "toString"),
        "java.util.ArrayList", Set.of("add", "get", "set", "remove", "size", "isEmpty", "clear"),
        "java.util.List", Set.of("add", "get", "set", "remove", "size", "isEmpty", "clear", "of"),
        "java.lang.Integer", Set.of("compare", "max", "min", "bitCount"),
        "java.lang.Long", Set.of("compare", "max", "min", "bitCount"),
        "java.lang.Math", Set.of("max", "min", "abs", "floorDiv", "floorMod"),
        "java.lang.System", Set.of("arraycopy"),
        "java.util.Arrays", Set.of("copyOf", "copyOfRange", "fill"),
        "java.lang.Object", Set.of("<init>"));
    private static final String NUMBER = "int|long|short|byte|char|boolean|double|float";

    private static final int MOST_PARAMETERS = 7;
    private static final int MOST_LINES = 60;
    private static final int MOST_CLASSES = 12;
    private static final int MOST_FIELDS = 20;
    private static final int MOST_DEEP = 8;

    private final Trees trees;
    private final Set<String> classes = new TreeSet<>();
    /** For each method the methods of the program that it calls. */
    private final Map<Element, Set<Element>> calls = new LinkedHashMap<>();
    private CompilationUnitTree unit = null;
    private MethodTree method = null;

    private LanguageTest(Trees trees) {
        this.trees = trees;
    }

    public static void main(String[] args) throws IOException {
        JavaCompiler compiler = ToolProvider.getSystemJavaCompiler();
        try (StandardJavaFileManager files = compiler.getStandardFileManager(null, null, null)) {
            JavacTask task = (JavacTask) compiler.getTask(null, files, null, null, null,
                files.getJavaFileObjects(new File(PROGRAM)));
            Iterable<? extends CompilationUnitTree> units = task.parse();
            task.analyze();
            LanguageTest test = new LanguageTest(Trees.instance(task));
            for (CompilationUnitTree unit : units) {
                test.look(unit);
            }
        }
        CHECK.end();
    }

    private void look(CompilationUnitTree program) {
        unit = program;
        CHECK.due("classes outside of others", 1, program.getTypeDecls().size());
        for (Class<?> inside : LendingDisk.class.getDeclaredClasses()) {
            classes.add(inside.getSimpleName());
        }
        atMost("classes", MOST_CLASSES, classes.size() + 1);
        scan(program, null);
        holds("there are methods", !calls.isEmpty());
        for (Element each : calls.keySet()) {
            atMost("calls that go deep from " + name(each), MOST_DEEP, deep(each, 1));
        }
    }

    private static void holds(String what, boolean fact) {
        CHECK.due(what, 1, fact ? 1 : 0);
    }

    private static void atMost(String what, int most, int number) {
        holds(what + ": " + number + ", at most " + most, number <= most);
    }

    private static String name(Element each) {
        return each.getEnclosingElement().getSimpleName() + "." + each;
    }

    /** Recursion would not end here, but for the bound: it counts as too deep, as the class has no need of it. */
    private int deep(Element from, int level) {
        int deepest = 1;
        if (level <= MOST_DEEP) {
            for (Element called : calls.getOrDefault(from, Set.of())) {
                deepest = Math.max(deepest, 1 + deep(called, level + 1));
            }
        }
        return deepest;
    }

    private long line(long position) {
        return unit.getLineMap().getLineNumber(position);
    }

    private String where(Tree tree) {
        return " in line " + line(trees.getSourcePositions().getStartPosition(unit, tree));
    }

    @Override
    public Void scan(Tree tree, Void none) {
        if (tree != null && REFUSED.contains(tree.getKind())) {
            holds("no " + tree.getKind() + where(tree), false);
        }
        return super.scan(tree, none);
    }

    @Override
    public Void visitImport(ImportTree tree, Void none) {
        holds(tree + " is listed", !tree.isStatic() && IMPORTS.contains(tree.getQualifiedIdentifier().toString()));
        return null;
    }

    @Override
    public Void visitClass(ClassTree tree, Void none) {
        int fields = 0;
        for (Tree member : tree.getMembers()) {
            holds("no static initialiser" + where(member), !(member instanceof BlockTree && ((BlockTree) member).isStatic()));
            boolean isField = member instanceof VariableTree
                && !((VariableTree) member).getModifiers().getFlags().contains(Modifier.STATIC);
            fields += isField ? 1 : 0;
        }
        atMost("fields of " + tree.getSimpleName(), MOST_FIELDS, fields);
        holds("no class in a method" + where(tree), method == null);
        return super.visitClass(tree, none);
    }

    @Override
    public Void visitMethod(MethodTree tree, Void none) {
        long first = trees.getSourcePositions().getStartPosition(unit, tree);
        long last = trees.getSourcePositions().getEndPosition(unit, tree);
        atMost("lines of " + tree.getName(), MOST_LINES, (int) (line(last) - line(first) + 1));
        atMost("parameters of " + tree.getName(), MOST_PARAMETERS, tree.getParameters().size());
        holds(tree.getName() + " names no exception", tree.getThrows().isEmpty());
        calls.put(trees.getElement(getCurrentPath()), new LinkedHashSet<>());
        method = tree;
        super.visitMethod(tree, none);
        method = null;
        return null;
    }

    @Override
    public Void visitVariable(VariableTree tree, Void none) {
        String type = String.valueOf(tree.getType());
        String own = String.join("|", classes);
        holds(type + " " + tree.getName() + where(tree), type.matches("(" + NUMBER + ")(\\[\\]){0,2}|(" + own + ")(\\[\\])?"
            + "|String|StringBuilder|(ArrayList|List)<(Integer|" + own + ")>"));
        return super.visitVariable(tree, none);
    }

    @Override
    public Void visitMethodInvocation(MethodInvocationTree tree, Void none) {
        Element called = trees.getElement(getCurrentPath());
        String owner = called.getEnclosingElement().toString();
        if (owner.equals("LendingDisk") || owner.startsWith("LendingDisk.")) {
            if (method != null) {
                calls.get(trees.getElement(pathOfMethod())).add(called);
            }
        } else {
            holds(owner + "." + called + where(tree),
                LIBRARY.getOrDefault(owner, Set.of()).contains(called.getSimpleName().toString()));
        }
        return super.visitMethodInvocation(tree, none);
    }

    private TreePath pathOfMethod() {
        return trees.getPath(unit, method);
    }

    @Override
    public Void visitNewClass(NewClassTree tree, Void none) {
        made(tree);
        holds("no class without a name" + where(tree), tree.getClassBody() == null);
        return super.visitNewClass(tree, none);
    }

    @Override
    public Void visitNewArray(NewArrayTree tree, Void none) {
        made(tree);
        return super.visitNewArray(tree, none);
    }

    private void made(Tree tree) {
        boolean inConstructor = method != null && method.getReturnType() == null;
        holds("made in a constructor" + where(tree), method == null || inConstructor);
    }

    @Override
    public Void visitForLoop(ForLoopTree tree, Void none) {
        holds("the loop has an end" + where(tree), tree.getCondition() != null);
        return super.visitForLoop(tree, none);
    }

    @Override
    public Void visitWhileLoop(WhileLoopTree tree, Void none) {
        holds("the loop has an end" + where(tree), !tree.getCondition().toString().equals("(true)"));
        return super.visitWhileLoop(tree, none);
    }
}
