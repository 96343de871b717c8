import com.sun.source.tree.BinaryTree;
import com.sun.source.tree.ClassTree;
import com.sun.source.tree.CompilationUnitTree;
import com.sun.source.tree.MethodInvocationTree;
import com.sun.source.tree.MethodTree;
import com.sun.source.tree.NewArrayTree;
import com.sun.source.tree.NewClassTree;
import com.sun.source.tree.Tree;
import com.sun.source.tree.TypeCastTree;
import com.sun.source.tree.VariableTree;
import com.sun.source.util.JavacTask;
import com.sun.source.util.TreePathScanner;
import com.sun.source.util.Trees;
import java.io.IOException;
import java.nio.file.Path;
import java.util.EnumSet;
import java.util.List;
import java.util.Map;
import java.util.Set;
import java.util.TreeMap;
import java.util.TreeSet;
import javax.lang.model.element.Element;
import javax.lang.model.element.ElementKind;
import javax.lang.model.element.Modifier;
import javax.tools.JavaCompiler;
import javax.tools.StandardJavaFileManager;
import javax.tools.ToolProvider;

/** The rules of LANGUAGE.md, held against the tree that the compiler makes of the class. */
public final class LanguageTest extends TreePathScanner<Void, String> {
    private static final int MOST_PARAMETERS = 7;
    private static final int MOST_LINES = 60;
    private static final int MOST_DEEP = 8;
    /** What rule 4 lists of the library, as far as the class has need of it. */
    private static final Set<String> LIBRARY = Set.of("java.lang.String.length", "java.lang.String.charAt",
            "java.lang.Math.max", "java.lang.Math.min", "java.lang.Math.abs", "java.lang.Long.bitCount",
            "java.lang.System.arraycopy");
    private static final Set<Tree.Kind> RULED_OUT = EnumSet.of(Tree.Kind.LAMBDA_EXPRESSION, Tree.Kind.MEMBER_REFERENCE,
            Tree.Kind.THROW, Tree.Kind.TRY, Tree.Kind.CATCH, Tree.Kind.SYNCHRONIZED, Tree.Kind.ASSERT, Tree.Kind.IMPORT,
            Tree.Kind.PACKAGE, Tree.Kind.ANNOTATION);

    private final Trees trees;
    private final CompilationUnitTree unit;
    private final Map<String, Set<String>> calls = new TreeMap<>();

    private LanguageTest(Trees trees, CompilationUnitTree unit) {
        this.trees = trees;
        this.unit = unit;
    }

    public static void main(String[] args) throws IOException {
        Checks.mustEnd();
        JavaCompiler compiler = ToolProvider.getSystemJavaCompiler();
        try (StandardJavaFileManager files = compiler.getStandardFileManager(null, null, null)) {
            JavacTask task = (JavacTask) compiler.getTask(null, files, null, List.of("-proc:none"), null,
                    files.getJavaFileObjects(Path.of("src/main/java/DuneBench.java")));
            CompilationUnitTree unit = task.parse().iterator().next();
            task.analyze();
            LanguageTest test = new LanguageTest(Trees.instance(task), unit);
            test.scan(unit, "");
            test.depths();
        }
        Checks.close("LanguageTest");
    }

    @Override
    public Void scan(Tree tree, String method) {
        if (tree != null && RULED_OUT.contains(tree.getKind())) {
            Checks.due("rules 2, 4 and 6: " + tree.getKind() + " in " + method, 0, 1);
        }
        return super.scan(tree, method);
    }

    @Override
    public Void visitClass(ClassTree tree, String method) {
        Checks.due("rule 2: the class " + tree.getSimpleName() + " is in no method", true, method.isEmpty());
        return super.visitClass(tree, method);
    }

    @Override
    public Void visitMethod(MethodTree tree, String outer) {
        String name = name(trees.getElement(getCurrentPath()));
        calls.put(name, new TreeSet<>());
        Checks.due("rule 11: parameters of " + name, true, tree.getParameters().size() <= MOST_PARAMETERS);
        long from = trees.getSourcePositions().getStartPosition(unit, tree);
        long to = trees.getSourcePositions().getEndPosition(unit, tree);
        if (to > from) {
            long lines = unit.getLineMap().getLineNumber(to) - unit.getLineMap().getLineNumber(from) + 1;
            Checks.due("rule 11: lines of " + name, true, lines <= MOST_LINES);
        }
        return super.visitMethod(tree, name);
    }

    @Override
    public Void visitVariable(VariableTree tree, String method) {
        Set<Modifier> flags = tree.getModifiers().getFlags();
        Checks.due("rule 5: " + tree.getName() + " is final if static", true,
                !flags.contains(Modifier.STATIC) || flags.contains(Modifier.FINAL));
        return super.visitVariable(tree, method);
    }

    @Override
    public Void visitMethodInvocation(MethodInvocationTree tree, String method) {
        called(trees.getElement(getCurrentPath()), method);
        return super.visitMethodInvocation(tree, method);
    }

    @Override
    public Void visitNewClass(NewClassTree tree, String method) {
        Checks.due("rule 2: a class without a name in " + method, true, tree.getClassBody() == null);
        made(method);
        called(trees.getElement(getCurrentPath()), method);
        return super.visitNewClass(tree, method);
    }

    @Override
    public Void visitNewArray(NewArrayTree tree, String method) {
        made(method);
        return super.visitNewArray(tree, method);
    }

    /** Rule 12, and the room in which all calls of a run live: a call makes nothing, a new object all it needs. */
    private static void made(String method) {
        Checks.due("rule 12: an object is made in " + method, false, !method.isEmpty() && !method.endsWith("<init>"));
    }

    @Override
    public Void visitBinary(BinaryTree tree, String method) {
        boolean text = trees.getTypeMirror(getCurrentPath()).toString().equals("java.lang.String");
        Checks.due("rule 10: texts joined by + in " + method, false, text);
        return super.visitBinary(tree, method);
    }

    @Override
    public Void visitTypeCast(TypeCastTree tree, String method) {
        boolean number = trees.getTypeMirror(getCurrentPath()).getKind().isPrimitive();
        Checks.due("rule 6: a cast among classes in " + method, true, number);
        return super.visitTypeCast(tree, method);
    }

    private void called(Element element, String method) {
        String name = name(element);
        if (!name.startsWith("DuneBench")) {
            boolean superObject = name.equals("java.lang.Object.<init>");
            Checks.due("rule 4: " + name + " in " + method, true, superObject || LIBRARY.contains(name));
        } else if (!method.isEmpty()) {
            calls.get(method).add(name);
        }
    }

    private static String name(Element element) {
        String own = element.getSimpleName().toString();
        Element owner = element.getEnclosingElement();
        boolean member = element.getKind() == ElementKind.METHOD || element.getKind() == ElementKind.CONSTRUCTOR;
        return member ? owner + "." + own : own;
    }

    /** Rules 8 and 11: nothing calls itself, and no more than eight calls stand open at once. */
    private void depths() {
        Checks.due("methods are found", true, calls.size() > 60);
        for (String method : calls.keySet()) {
            int deep = deep(method, 1);
            Checks.due("rules 8 and 11: calls from " + method + " on go " + deep + " deep", true, deep <= MOST_DEEP);
        }
    }

    private int deep(String method, int level) {
        int deepest = level;
        for (String callee : calls.getOrDefault(method, Set.of())) {
            if (level <= MOST_DEEP) {
                deepest = Math.max(deepest, deep(callee, level + 1));
            }
        }
        return deepest;
    }
}
