import com.sun.source.tree.ArrayAccessTree;
import com.sun.source.tree.AssertTree;
import com.sun.source.tree.AssignmentTree;
import com.sun.source.tree.BinaryTree;
import com.sun.source.tree.ClassTree;
import com.sun.source.tree.CompilationUnitTree;
import com.sun.source.tree.CompoundAssignmentTree;
import com.sun.source.tree.DoWhileLoopTree;
import com.sun.source.tree.ExpressionTree;
import com.sun.source.tree.ForLoopTree;
import com.sun.source.tree.LambdaExpressionTree;
import com.sun.source.tree.LiteralTree;
import com.sun.source.tree.MemberReferenceTree;
import com.sun.source.tree.MethodInvocationTree;
import com.sun.source.tree.MethodTree;
import com.sun.source.tree.NewArrayTree;
import com.sun.source.tree.NewClassTree;
import com.sun.source.tree.SynchronizedTree;
import com.sun.source.tree.ThrowTree;
import com.sun.source.tree.Tree;
import com.sun.source.tree.TryTree;
import com.sun.source.tree.TypeCastTree;
import com.sun.source.tree.VariableTree;
import com.sun.source.tree.WhileLoopTree;
import com.sun.source.util.JavacTask;
import com.sun.source.util.TreePath;
import com.sun.source.util.TreePathScanner;
import com.sun.source.util.Trees;
import java.io.IOException;
import java.nio.file.Path;
import java.util.ArrayDeque;
import java.util.Deque;
import java.util.HashMap;
import java.util.HashSet;
import java.util.List;
import java.util.Map;
import java.util.Set;
import java.util.TreeMap;
import java.util.TreeSet;
import java.util.regex.Pattern;
import javax.lang.model.element.Element;
import javax.lang.model.element.ExecutableElement;
import javax.lang.model.element.Modifier;
import javax.lang.model.element.TypeElement;
import javax.lang.model.element.VariableElement;
import javax.lang.model.type.TypeKind;
import javax.lang.model.type.TypeMirror;
import javax.tools.JavaCompiler;
import javax.tools.StandardJavaFileManager;
import javax.tools.ToolProvider;

/** LANGUAGE.md's rules on what the source may hold, by the compiler's own tree of it. */
public final class RulesTest extends TreePathScanner<Void, Void> {
    private static final String SOURCE = "src/main/java/PageWars.java";
    private static final int MOST_DEEP = 8;
    private static final int MOST_LINES = 60;
    // Of rule 4, as far as a plain class could want it.
    private static final Set<String> LIBRARY = Set.of("java.lang.Object.<init>",
            "java.lang.System.arraycopy", "java.lang.Math.max", "java.lang.Math.min",
            "java.lang.Math.abs", "java.lang.String.length", "java.lang.String.charAt",
            "java.lang.String.indexOf", "java.lang.String.isEmpty", "java.util.Arrays.fill",
            "java.util.Arrays.copyOf", "java.util.Arrays.copyOfRange");
    private static final Set<String> CONSTANTS = Set.of("int", "long", "boolean", "char",
            "java.lang.String", "int[]", "long[]", "char[]", "byte[]");

    private final Trees trees;
    private final CompilationUnitTree unit;
    private final Map<String, Set<String>> calls = new TreeMap<>();
    private final Deque<String> inside = new ArrayDeque<>();
    private String methodText = "";

    private RulesTest(Trees trees, CompilationUnitTree unit) {
        this.trees = trees;
        this.unit = unit;
    }

    private Element element() {
        return trees.getElement(getCurrentPath());
    }

    private long line(Tree tree) {
        return unit.getLineMap().getLineNumber(
                trees.getSourcePositions().getStartPosition(unit, tree));
    }

    private void breaks(int rule, String what, Tree tree) {
        Due.is("rule " + rule + ": " + what + " in line", line(tree), 0);
    }

    private static String name(ExecutableElement method) {
        return ((TypeElement) method.getEnclosingElement()).getQualifiedName() + "."
                + method.getSimpleName();
    }

    @Override public Void visitClass(ClassTree tree, Void none) {
        TypeElement type = (TypeElement) element();
        boolean outer = type.getSimpleName().contentEquals("PageWars");
        boolean nested = type.getNestingKind().toString().equals("MEMBER")
                && type.getModifiers().contains(Modifier.STATIC)
                && !type.getModifiers().contains(Modifier.PUBLIC)
                && !type.getModifiers().contains(Modifier.PROTECTED);
        Due.holds("rule 2: " + type, outer || nested);
        return super.visitClass(tree, none);
    }

    @Override public Void visitMethod(MethodTree tree, Void none) {
        String name = name((ExecutableElement) element());
        calls.putIfAbsent(name, new TreeSet<>());
        long end = trees.getSourcePositions().getEndPosition(unit, tree);
        long lines = end < 0 ? 1 : unit.getLineMap().getLineNumber(end) - line(tree) + 1;
        Due.holds("rule 11: " + name + " is short", lines <= MOST_LINES);
        Due.holds("rule 11: " + name + " has few parameters", tree.getParameters().size() <= 7);
        inside.push(name);
        methodText = tree.toString();
        super.visitMethod(tree, none);
        inside.pop();
        return null;
    }

    @Override public Void visitMethodInvocation(MethodInvocationTree tree, Void none) {
        ExecutableElement method = (ExecutableElement) element();
        String name = name(method);
        if (name.startsWith("PageWars")) {
            calls.computeIfAbsent(inside.peek(), k -> new TreeSet<>()).add(name);
        } else {
            Due.holds("rule 4: " + name, LIBRARY.contains(name));
        }
        return super.visitMethodInvocation(tree, none);
    }

    @Override public Void visitVariable(VariableTree tree, Void none) {
        Element variable = element();
        if (variable.getKind().isField() && variable.getModifiers().contains(Modifier.STATIC)) {
            Due.holds("rule 5: " + variable, variable.getModifiers().contains(Modifier.FINAL)
                    && CONSTANTS.contains(variable.asType().toString()));
        }
        allowed(variable.asType(), tree);
        return super.visitVariable(tree, none);
    }

    /** Numbers, rows of them, texts, and the program's own classes. */
    private void allowed(TypeMirror type, Tree tree) {
        String name = type.toString();
        Due.holds("rule 3: " + name + " in line " + line(tree), name.startsWith("PageWars")
                || Set.of("int", "long", "boolean", "char", "byte", "short", "int[]", "long[]",
                "java.lang.String").contains(name));
    }

    @Override public Void visitNewArray(NewArrayTree tree, Void none) {
        Due.holds("rule 3: one dimension in line " + line(tree), tree.getDimensions().size() <= 1);
        return super.visitNewArray(tree, none);
    }

    @Override public Void visitNewClass(NewClassTree tree, Void none) {
        Due.holds("rule 4: new " + tree.getIdentifier(), tree.getClassBody() == null
                && trees.getTypeMirror(getCurrentPath()).toString().startsWith("PageWars"));
        return super.visitNewClass(tree, none);
    }

    /** Rule 9: a loop asks a number against a bound, by < <= > or >=. */
    private void hasEnd(ExpressionTree condition, Tree tree) {
        boolean bounded = condition != null && Pattern.compile(" [<>]=? ")
                .matcher(condition.toString()).find();
        Due.holds("rule 9: the loop in line " + line(tree) + " has an end", bounded);
    }

    @Override public Void visitForLoop(ForLoopTree tree, Void none) {
        hasEnd(tree.getCondition(), tree);
        return super.visitForLoop(tree, none);
    }

    @Override public Void visitWhileLoop(WhileLoopTree tree, Void none) {
        hasEnd(tree.getCondition(), tree);
        return super.visitWhileLoop(tree, none);
    }

    @Override public Void visitDoWhileLoop(DoWhileLoopTree tree, Void none) {
        hasEnd(tree.getCondition(), tree);
        return super.visitDoWhileLoop(tree, none);
    }

    /** Rule 7: a divisor is a constant that isn't 0, or is asked against 0 in the same method. */
    private void isAsked(ExpressionTree divisor, Tree tree) {
        Object value = constant(divisor);
        boolean fine = value instanceof Number && ((Number) value).longValue() != 0
                || value == null && methodText.contains(divisor + " == 0");
        Due.holds("rule 7: by " + divisor + " in line " + line(tree), fine);
    }

    private Object constant(ExpressionTree tree) {
        if (tree instanceof LiteralTree) {
            return ((LiteralTree) tree).getValue();
        }
        Element named = trees.getElement(new TreePath(getCurrentPath(), tree));
        return named instanceof VariableElement ? ((VariableElement) named).getConstantValue()
                : null;
    }

    @Override public Void visitCompoundAssignment(CompoundAssignmentTree tree, Void none) {
        if (tree.getKind() == Tree.Kind.DIVIDE_ASSIGNMENT
                || tree.getKind() == Tree.Kind.REMAINDER_ASSIGNMENT) {
            isAsked(tree.getExpression(), tree);
        }
        neverChanged(tree.getVariable());
        return super.visitCompoundAssignment(tree, none);
    }

    @Override public Void visitAssignment(AssignmentTree tree, Void none) {
        neverChanged(tree.getVariable());
        return super.visitAssignment(tree, none);
    }

    /** Rule 5: no number of a static row is changed. */
    private void neverChanged(ExpressionTree variable) {
        if (variable instanceof ArrayAccessTree) {
            Element row = trees.getElement(new TreePath(getCurrentPath(),
                    ((ArrayAccessTree) variable).getExpression()));
            Due.holds("rule 5: " + variable, row == null
                    || !row.getModifiers().contains(Modifier.STATIC));
        }
    }

    @Override public Void visitBinary(BinaryTree tree, Void none) {
        if (tree.getKind() == Tree.Kind.DIVIDE || tree.getKind() == Tree.Kind.REMAINDER) {
            isAsked(tree.getRightOperand(), tree);
        }
        boolean same = tree.getKind() == Tree.Kind.EQUAL_TO || tree.getKind() == Tree.Kind.NOT_EQUAL_TO;
        TypeMirror left = trees.getTypeMirror(new TreePath(getCurrentPath(),
                tree.getLeftOperand()));
        if (left.getKind() == TypeKind.DECLARED) {
            Due.holds("rule 6, 10: " + tree, same && left.toString().startsWith("PageWars"));
        }
        return super.visitBinary(tree, none);
    }

    @Override public Void visitTypeCast(TypeCastTree tree, Void none) {
        Due.holds("rule 6: a cast of numbers, " + tree, Set.of("int", "char").contains(
                tree.getType().toString()));
        return super.visitTypeCast(tree, none);
    }

    @Override public Void visitThrow(ThrowTree tree, Void none) {
        breaks(6, "throw", tree);
        return null;
    }

    @Override public Void visitTry(TryTree tree, Void none) {
        breaks(6, "try", tree);
        return null;
    }

    @Override public Void visitSynchronized(SynchronizedTree tree, Void none) {
        breaks(6, "synchronized", tree);
        return null;
    }

    @Override public Void visitAssert(AssertTree tree, Void none) {
        breaks(6, "assert", tree);
        return null;
    }

    @Override public Void visitLambdaExpression(LambdaExpressionTree tree, Void none) {
        breaks(2, "a lambda", tree);
        return null;
    }

    @Override public Void visitMemberReference(MemberReferenceTree tree, Void none) {
        breaks(2, "a method reference", tree);
        return null;
    }

    private Set<String> reached(String from) {
        Set<String> reached = new HashSet<>();
        Deque<String> left = new ArrayDeque<>(calls.getOrDefault(from, Set.of()));
        while (!left.isEmpty()) {
            String next = left.pop();
            if (reached.add(next)) {
                left.addAll(calls.getOrDefault(next, Set.of()));
            }
        }
        return reached;
    }

    /** How many calls stand open at once; what calls itself, by others or not, counts as one. */
    private int depth(String name, Map<String, Set<String>> reached, Map<String, Integer> known) {
        if (known.containsKey(name)) {
            return known.get(name);
        }
        int deepest = 0;
        Set<String> circle = new TreeSet<>(Set.of(name));
        for (String other : reached.get(name)) {
            if (reached.get(other).contains(name)) {
                circle.add(other);
            }
        }
        for (String member : circle) {
            for (String next : calls.getOrDefault(member, Set.of())) {
                if (!circle.contains(next)) {
                    deepest = Math.max(deepest, depth(next, reached, known));
                }
            }
        }
        known.put(name, deepest + 1);
        return deepest + 1;
    }

    private void depths() {
        Map<String, Set<String>> reached = new HashMap<>();
        calls.keySet().forEach(name -> reached.put(name, reached(name)));
        Map<String, Integer> known = new HashMap<>();
        for (String name : calls.keySet()) {
            Due.holds("rule 11: " + name + " goes not too deep",
                    depth(name, reached, known) <= MOST_DEEP);
        }
        // Rule 8: recursion is in what reads TEXTS and in VOICES alone, each with a bound.
        for (String name : calls.keySet()) {
            Due.holds("rule 8: " + name, !reached.get(name).contains(name)
                    || name.startsWith("PageWars.Reader.") || name.startsWith("PageWars.Voices."));
        }
    }

    public static void main(String[] args) throws IOException {
        Due.subject("LANGUAGE.md");
        JavaCompiler compiler = ToolProvider.getSystemJavaCompiler();
        try (StandardJavaFileManager files = compiler.getStandardFileManager(null, null, null)) {
            JavacTask task = (JavacTask) compiler.getTask(null, files, null,
                    List.of("-proc:none", "--release", "17"), null,
                    files.getJavaFileObjects(Path.of(SOURCE)));
            CompilationUnitTree unit = task.parse().iterator().next();
            task.analyze();
            RulesTest rules = new RulesTest(Trees.instance(task), unit);
            Due.holds("rule 4: no import", unit.getImports().isEmpty());
            Due.holds("no package", unit.getPackageName() == null);
            Due.is("rule 2: classes in the file, outermost", unit.getTypeDecls().size(), 1);
            rules.scan(unit, null);
            rules.depths();
        }
        Due.ends();
    }
}
