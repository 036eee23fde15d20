import com.sun.source.tree.AssertTree;
import com.sun.source.tree.BinaryTree;
import com.sun.source.tree.ClassTree;
import com.sun.source.tree.CompilationUnitTree;
import com.sun.source.tree.LambdaExpressionTree;
import com.sun.source.tree.MemberReferenceTree;
import com.sun.source.tree.MethodInvocationTree;
import com.sun.source.tree.MethodTree;
import com.sun.source.tree.NewClassTree;
import com.sun.source.tree.SynchronizedTree;
import com.sun.source.tree.ThrowTree;
import com.sun.source.tree.Tree;
import com.sun.source.tree.TryTree;
import com.sun.source.tree.VariableTree;
import com.sun.source.util.JavacTask;
import com.sun.source.util.TreePath;
import com.sun.source.util.TreePathScanner;
import com.sun.source.util.Trees;
import java.io.File;
import java.io.IOException;
import java.util.ArrayList;
import java.util.HashMap;
import java.util.HashSet;
import java.util.List;
import java.util.Map;
import java.util.Set;
import java.util.TreeMap;
import java.util.TreeSet;
import javax.lang.model.element.Element;
import javax.lang.model.element.ElementKind;
import javax.lang.model.element.Modifier;
import javax.lang.model.type.TypeKind;
import javax.lang.model.type.TypeMirror;
import javax.tools.JavaCompiler;
import javax.tools.StandardJavaFileManager;
import javax.tools.ToolProvider;

/** LANGUAGE.md, as far as the compiler's own tree tells it: what stands in the program, how long, how deep. */
final class LanguageTest extends TreePathScanner<Void, Void> {
    private static final File SOURCE = new File("src/main/java/CountsIfCounted.java");
    private static final int MOST_LINES = 60, MOST_PARAMETERS = 7, MOST_DEEP = 8, MOST_CLASSES = 12, MOST_FIELDS = 20;
    private static final Set<String> LIBRARY = Set.of("java.lang.Math.min", "java.lang.Math.max", "java.lang.Math.floorMod",
            "java.lang.Integer.bitCount", "java.lang.String.length", "java.lang.String.charAt", "java.util.Arrays.fill",
            "java.util.Arrays.copyOf", "java.lang.System.arraycopy");

    private final Trees trees;
    private final CompilationUnitTree unit;
    private final Map<String, Set<String>> calls = new TreeMap<>();
    private final Set<String> hidden = new HashSet<>();
    private String method = "";
    private int classes;

    private LanguageTest(Trees trees, CompilationUnitTree unit) {
        this.trees = trees;
        this.unit = unit;
    }

    public static void main(String[] args) throws IOException {
        JavaCompiler compiler = ToolProvider.getSystemJavaCompiler();
        StandardJavaFileManager files = compiler.getStandardFileManager(null, null, null);
        JavacTask task = (JavacTask) compiler.getTask(null, files, null, List.of("-proc:none"), null, files.getJavaFileObjects(SOURCE));
        CompilationUnitTree unit = task.parse().iterator().next();
        task.analyze();
        LanguageTest test = new LanguageTest(Trees.instance(task), unit);
        test.scan(unit, null);
        Due.that("no package", unit.getPackageName() == null);
        Due.that("rule 11: classes", test.classes > 1 && test.classes <= MOST_CLASSES);
        Due.that("methods were found", test.calls.size() > 26);
        test.depth();
        Due.end();
    }

    // ---- what stands in the program

    @Override public Void visitClass(ClassTree node, Void none) {
        classes++;
        int fields = 0;
        Due.that("rule 2: a class in a method", method.isEmpty());
        for (Tree member : node.getMembers()) {
            if (member instanceof VariableTree field) {
                boolean isStatic = field.getModifiers().getFlags().contains(Modifier.STATIC);
                fields += isStatic ? 0 : 1;
                Due.that("rule 5: " + field.getName(), !isStatic || field.getModifiers().getFlags().contains(Modifier.FINAL));
            }
            Due.that("rule 5: no initialiser block", member.getKind() != Tree.Kind.BLOCK);
        }
        Due.that("rule 11: fields of " + node.getSimpleName(), fields <= MOST_FIELDS);
        return super.visitClass(node, none);
    }

    @Override public Void visitMethod(MethodTree node, Void none) {
        Element its = trees.getElement(getCurrentPath());
        method = nameOf(its);
        Due.that("one method of a name: " + method, calls.put(method, new TreeSet<>()) == null);
        if (its.getModifiers().contains(Modifier.PRIVATE) || !its.getEnclosingElement().toString().equals("CountsIfCounted")) {
            hidden.add(method);
        }
        Due.that("rule 11: parameters of " + method, node.getParameters().size() <= MOST_PARAMETERS);
        Due.that("rule 11: lines of " + method, lines(node) <= MOST_LINES);
        super.visitMethod(node, none);
        method = "";
        return null;
    }

    private long lines(MethodTree node) {
        long from = trees.getSourcePositions().getStartPosition(unit, node);
        long to = trees.getSourcePositions().getEndPosition(unit, node);
        return from < 0 || to < 0 ? 0 : unit.getLineMap().getLineNumber(to) - unit.getLineMap().getLineNumber(from) + 1;
    }

    @Override public Void visitMethodInvocation(MethodInvocationTree node, Void none) {
        called(trees.getElement(getCurrentPath()));
        return super.visitMethodInvocation(node, none);
    }

    @Override public Void visitNewClass(NewClassTree node, Void none) {
        Due.that("rule 2: no anonymous class", node.getClassBody() == null);
        called(trees.getElement(getCurrentPath()));
        return super.visitNewClass(node, none);
    }

    private void called(Element its) {
        if (its.getKind() == ElementKind.CONSTRUCTOR && its.getEnclosingElement().toString().equals("java.lang.Object")) {
            return;
        }
        boolean isOwn = its.getEnclosingElement().toString().startsWith("CountsIfCounted");
        Due.that("rule 4: " + nameOf(its), isOwn || LIBRARY.contains(nameOf(its)));
        if (isOwn && calls.containsKey(method)) {
            calls.get(method).add(nameOf(its));
        }
    }

    private static String nameOf(Element its) {
        return its.getEnclosingElement() + "." + its.getSimpleName();
    }

    @Override public Void visitVariable(VariableTree node, Void none) {
        Element its = trees.getElement(getCurrentPath());
        TypeKind kind = its.asType().getKind();
        String type = its.asType().toString().replace("[]", "");
        Due.that("rule 3: " + type + " " + node.getName(), kind.isPrimitive() || kind == TypeKind.ARRAY
                && Set.of("int", "byte", "char", "long").contains(type) || type.startsWith("CountsIfCounted.")
                || type.equals("java.lang.String"));
        return super.visitVariable(node, none);
    }

    @Override public Void visitBinary(BinaryTree node, Void none) {
        boolean isText = isText(node.getLeftOperand()) || isText(node.getRightOperand());
        Due.that("rules 6, 10: no operator on texts: " + node, !isText);
        return super.visitBinary(node, none);
    }

    private boolean isText(Tree operand) {
        TypeMirror type = trees.getTypeMirror(new TreePath(getCurrentPath(), operand));
        return type != null && type.toString().equals("java.lang.String");
    }

    @Override public Void visitThrow(ThrowTree node, Void none) {
        return leftOut(node);
    }

    @Override public Void visitTry(TryTree node, Void none) {
        return leftOut(node);
    }

    @Override public Void visitAssert(AssertTree node, Void none) {
        return leftOut(node);
    }

    @Override public Void visitSynchronized(SynchronizedTree node, Void none) {
        return leftOut(node);
    }

    @Override public Void visitLambdaExpression(LambdaExpressionTree node, Void none) {
        return leftOut(node);
    }

    @Override public Void visitMemberReference(MemberReferenceTree node, Void none) {
        return leftOut(node);
    }

    private Void leftOut(Tree node) {
        Due.that("rules 2, 6: " + node, false);
        return null;
    }

    // ---- how deep calls go

    private void depth() {
        Map<String, Set<String>> reached = new HashMap<>();
        for (String from : calls.keySet()) {
            reached.put(from, reachedFrom(from));
        }
        for (String from : calls.keySet()) {
            boolean isRecursive = reached.get(from).contains(from);
            Due.that("rule 8: " + from + " is private, as it is recursive", !isRecursive || hidden.contains(from));
            List<String> deepest = deepest(from, reached);
            Due.that("rule 11: " + deepest, deepest.size() <= MOST_DEEP);
        }
        Due.that("rule 8: TEXTS are read by descent", reached.get("CountsIfCounted.Reader.readE").contains("CountsIfCounted.Reader.readE"));
    }

    private Set<String> reachedFrom(String from) {
        Set<String> reached = new TreeSet<>();
        List<String> waiting = new ArrayList<>(calls.get(from));
        while (!waiting.isEmpty()) {
            String next = waiting.remove(waiting.size() - 1);
            if (reached.add(next)) {
                waiting.addAll(calls.getOrDefault(next, Set.of()));
            }
        }
        return reached;
    }

    /** The longest chain of calls; those that call one another in a ring stand in it once. */
    private List<String> deepest(String from, Map<String, Set<String>> reached) {
        List<String> deepest = List.of();
        Set<String> ring = new TreeSet<>(Set.of(from));
        for (String other : reached.getOrDefault(from, Set.of())) {
            if (reached.getOrDefault(other, Set.of()).contains(from)) {
                ring.add(other);
            }
        }
        for (String one : ring) {
            for (String next : calls.getOrDefault(one, Set.of())) {
                List<String> behind = ring.contains(next) ? List.of() : deepest(next, reached);
                deepest = behind.size() > deepest.size() ? behind : deepest;
            }
        }
        List<String> all = new ArrayList<>(List.of(from));
        all.addAll(deepest);
        return all;
    }
}
