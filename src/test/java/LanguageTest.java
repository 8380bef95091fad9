import com.sun.source.tree.AnnotationTree;
import com.sun.source.tree.ArrayTypeTree;
import com.sun.source.tree.AssertTree;
import com.sun.source.tree.BinaryTree;
import com.sun.source.tree.BlockTree;
import com.sun.source.tree.ClassTree;
import com.sun.source.tree.CompilationUnitTree;
import com.sun.source.tree.CompoundAssignmentTree;
import com.sun.source.tree.DoWhileLoopTree;
import com.sun.source.tree.EnhancedForLoopTree;
import com.sun.source.tree.ForLoopTree;
import com.sun.source.tree.IdentifierTree;
import com.sun.source.tree.LambdaExpressionTree;
import com.sun.source.tree.MemberReferenceTree;
import com.sun.source.tree.MethodInvocationTree;
import com.sun.source.tree.MethodTree;
import com.sun.source.tree.NewArrayTree;
import com.sun.source.tree.NewClassTree;
import com.sun.source.tree.SynchronizedTree;
import com.sun.source.tree.ThrowTree;
import com.sun.source.tree.Tree;
import com.sun.source.tree.TryTree;
import com.sun.source.tree.TypeCastTree;
import com.sun.source.tree.VariableTree;
import com.sun.source.tree.WhileLoopTree;
import com.sun.source.util.JavacTask;
import com.sun.source.util.TreePath;
import com.sun.source.util.TreePathScanner;
import com.sun.source.util.Trees;
import java.io.IOException;
import java.nio.file.Path;
import java.util.LinkedHashSet;
import java.util.List;
import java.util.Map;
import java.util.Set;
import java.util.TreeMap;
import java.util.TreeSet;
import javax.lang.model.element.Element;
import javax.lang.model.element.ElementKind;
import javax.lang.model.element.ExecutableElement;
import javax.lang.model.element.Modifier;
import javax.lang.model.element.VariableElement;
import javax.tools.JavaCompiler;
import javax.tools.StandardJavaFileManager;
import javax.tools.ToolProvider;

/** The rules of LANGUAGE.md, looked at in the class as the compiler reads it. */
public final class LanguageTest extends TreePathScanner<Void, Void> {
    private static final Path SOURCE = Path.of("src/main/java/NewsShips.java");
    private static final Set<String> LIBRARY = Set.of(
        "java.lang.Math.max", "java.lang.Math.min", "java.lang.Integer.bitCount",
        "java.lang.System.arraycopy", "java.util.Arrays.fill");
    private static final Set<String> NUMBERS = Set.of(
        "int", "long", "short", "byte", "char", "boolean", "double", "float");
    private static final int MOST_LINES = 60, MOST_PARAMETERS = 7, MOST_DEEP = 8, MOST_CLASSES = 12, MOST_FIELDS = 20;

    private final Trees trees;
    private final CompilationUnitTree unit;
    private final Set<String> own = new TreeSet<>();
    private final Map<String, Set<String>> calls = new TreeMap<>();
    private final Set<String> shown = new TreeSet<>();
    private String method = "";
    private boolean inConstructor;

    private LanguageTest(Trees trees, CompilationUnitTree unit) {
        this.trees = trees;
        this.unit = unit;
    }

    public static void main(String[] args) throws IOException {
        JavaCompiler compiler = ToolProvider.getSystemJavaCompiler();
        try (StandardJavaFileManager files = compiler.getStandardFileManager(null, null, null)) {
            JavacTask task = (JavacTask) compiler.getTask(null, files, null, List.of("-proc:none"), null,
                files.getJavaFileObjects(SOURCE));
            CompilationUnitTree unit = task.parse().iterator().next();
            task.analyze();
            new LanguageTest(Trees.instance(task), unit).look();
        }
        Check.end("LanguageTest");
    }

    private void look() {
        Check.holds("one class stands in the file", unit.getTypeDecls().size() == 1);
        Check.holds("there is no package line", unit.getPackageName() == null);
        new TreePathScanner<Void, Void>() {
            @Override
            public Void visitClass(ClassTree node, Void none) {
                own.add(node.getSimpleName().toString());
                return super.visitClass(node, none);
            }
        }.scan(unit, null);
        Check.holds("few classes: " + own, own.size() <= MOST_CLASSES);
        scan(unit, null);
        Check.holds("the calls are known", shown.size() == 33 && calls.size() > shown.size());
        for (String start : shown) {
            int deep = depth(start, new LinkedHashSet<>());
            Check.holds(start + " goes " + deep + " deep", deep <= MOST_DEEP);
        }
    }

    private void no(String what, Tree node) {
        long at = trees.getSourcePositions().getStartPosition(unit, node);
        Check.holds("no " + what + ", line " + unit.getLineMap().getLineNumber(at), false);
    }

    private Element element(Tree node) {
        return trees.getElement(new TreePath(getCurrentPath(), node));
    }

    // ---- classes, members, types

    @Override
    public Void visitClass(ClassTree node, Void none) {
        Tree around = getCurrentPath().getParentPath().getLeaf();
        Set<Modifier> flags = node.getModifiers().getFlags();
        boolean outer = around instanceof CompilationUnitTree;
        if (outer) {
            Check.holds("the class is public and final", flags.equals(Set.of(Modifier.PUBLIC, Modifier.FINAL)));
        } else {
            Check.holds(node.getSimpleName() + " stands in the class", around instanceof ClassTree);
            Check.holds(node.getSimpleName() + " is static", flags.contains(Modifier.STATIC));
        }
        int fields = 0;
        for (Tree member : node.getMembers()) {
            if (member instanceof BlockTree) {
                no("block outside of methods", member);
            } else if (member instanceof VariableTree field) {
                fields += field.getModifiers().getFlags().contains(Modifier.STATIC) ? 0 : 1;
            }
        }
        Check.holds(node.getSimpleName() + " has few fields: " + fields, fields <= MOST_FIELDS);
        return super.visitClass(node, none);
    }

    @Override
    public Void visitVariable(VariableTree node, Void none) {
        if (getCurrentPath().getParentPath().getLeaf() instanceof ClassTree) {
            Set<Modifier> flags = node.getModifiers().getFlags();
            if (flags.contains(Modifier.STATIC)) {
                Element field = trees.getElement(getCurrentPath());
                boolean constant = field instanceof VariableElement v && v.getConstantValue() != null;
                Check.holds(node.getName() + " is a constant", flags.contains(Modifier.FINAL) && constant);
            }
        }
        Check.holds(node.getName() + " has a type that may be", node.getType() != null && mayBe(node.getType(), 0));
        return super.visitVariable(node, none);
    }

    private boolean mayBe(Tree type, int dimensions) {
        if (type instanceof ArrayTypeTree array) {
            return mayBe(array.getType(), dimensions + 1);
        }
        String name = type.toString();
        return NUMBERS.contains(name) && dimensions <= 2 || own.contains(name) && dimensions <= 1;
    }

    @Override
    public Void visitMethod(MethodTree node, Void none) {
        ExecutableElement self = (ExecutableElement) trees.getElement(getCurrentPath());
        String name = nameOf(self);
        boolean constructor = self.getKind() == ElementKind.CONSTRUCTOR;
        if (self.getModifiers().contains(Modifier.PUBLIC)) {
            shown.add(name);
        }
        calls.put(name, new LinkedHashSet<>());
        long from = trees.getSourcePositions().getStartPosition(unit, node);
        long to = trees.getSourcePositions().getEndPosition(unit, node);
        // A constructor that nobody wrote has no end in the text.
        long lines = to < 0 ? 0 : unit.getLineMap().getLineNumber(to) - unit.getLineMap().getLineNumber(from) + 1;
        Check.holds(name + " is short: " + lines, lines <= MOST_LINES);
        Check.holds(name + " takes few: " + node.getParameters().size(), node.getParameters().size() <= MOST_PARAMETERS);
        Check.holds(name + " throws nothing", node.getThrows().isEmpty());
        Check.holds(name + " is not generic", node.getTypeParameters().isEmpty());
        Tree answer = node.getReturnType();
        Check.holds(name + " answers what may be",
            answer == null || answer.toString().equals("void") || mayBe(answer, 0));
        String before = method;
        boolean inBefore = inConstructor;
        method = name;
        inConstructor = constructor;
        super.visitMethod(node, none);
        method = before;
        inConstructor = inBefore;
        return null;
    }

    // ---- calls

    private static String nameOf(ExecutableElement e) {
        return e.getEnclosingElement() + "." + e.getSimpleName();
    }

    @Override
    public Void visitMethodInvocation(MethodInvocationTree node, Void none) {
        Element called = element(node.getMethodSelect());
        if (called instanceof ExecutableElement e && !e.getSimpleName().contentEquals("<init>")) {
            String name = nameOf(e);
            if (name.startsWith("NewsShips")) {
                Check.holds(name + " is called by a method", calls.containsKey(method));
                calls.get(method).add(name);
                Check.holds("a constructor calls no method of its own: " + name, !inConstructor);
            } else {
                Check.holds("of the library: " + name, LIBRARY.contains(name));
            }
        }
        return super.visitMethodInvocation(node, none);
    }

    /** How many calls stand open at most; one that comes to itself again is far too deep. */
    private int depth(String name, Set<String> open) {
        if (!open.add(name)) {
            Check.holds("no call comes to itself: " + open + " to " + name, false);
            return MOST_DEEP + 1;
        }
        int deepest = 0;
        for (String next : calls.getOrDefault(name, Set.of())) {
            deepest = Math.max(deepest, depth(next, open));
        }
        open.remove(name);
        return deepest + 1;
    }

    // ---- what is made: all of it with the object itself

    private boolean madeAtFirst() {
        return inConstructor || method.isEmpty();
    }

    @Override
    public Void visitNewClass(NewClassTree node, Void none) {
        Check.holds("only own classes are made: " + node, own.contains(node.getIdentifier().toString()));
        Check.holds(node + " has no body", node.getClassBody() == null);
        Check.holds(node + " is made at first", madeAtFirst());
        return super.visitNewClass(node, none);
    }

    @Override
    public Void visitNewArray(NewArrayTree node, Void none) {
        Check.holds(node + " is made at first", madeAtFirst());
        return super.visitNewArray(node, none);
    }

    // ---- loops: a counter against a bound, so that the end can be seen

    @Override
    public Void visitForLoop(ForLoopTree node, Void none) {
        if (node.getCondition() == null || node.getUpdate().size() != 1 || node.getInitializer().size() != 1) {
            no("loop without a counter", node);
        }
        return super.visitForLoop(node, none);
    }

    @Override
    public Void visitWhileLoop(WhileLoopTree node, Void none) {
        no("while", node);
        return super.visitWhileLoop(node, none);
    }

    @Override
    public Void visitDoWhileLoop(DoWhileLoopTree node, Void none) {
        no("do", node);
        return super.visitDoWhileLoop(node, none);
    }

    @Override
    public Void visitEnhancedForLoop(EnhancedForLoopTree node, Void none) {
        no("for over a list", node);
        return super.visitEnhancedForLoop(node, none);
    }

    // ---- what there is none of

    @Override
    public Void visitLambdaExpression(LambdaExpressionTree node, Void none) {
        no("lambda", node);
        return super.visitLambdaExpression(node, none);
    }

    @Override
    public Void visitMemberReference(MemberReferenceTree node, Void none) {
        no("reference to a method", node);
        return super.visitMemberReference(node, none);
    }

    @Override
    public Void visitThrow(ThrowTree node, Void none) {
        no("throw", node);
        return super.visitThrow(node, none);
    }

    @Override
    public Void visitTry(TryTree node, Void none) {
        no("try", node);
        return super.visitTry(node, none);
    }

    @Override
    public Void visitSynchronized(SynchronizedTree node, Void none) {
        no("synchronized", node);
        return super.visitSynchronized(node, none);
    }

    @Override
    public Void visitAssert(AssertTree node, Void none) {
        no("assert", node);
        return super.visitAssert(node, none);
    }

    @Override
    public Void visitAnnotation(AnnotationTree node, Void none) {
        no("annotation", node);
        return super.visitAnnotation(node, none);
    }

    @Override
    public Void visitTypeCast(TypeCastTree node, Void none) {
        Check.holds("a cast to a number: " + node, NUMBERS.contains(node.getType().toString()));
        return super.visitTypeCast(node, none);
    }

    @Override
    public Void visitCompoundAssignment(CompoundAssignmentTree node, Void none) {
        if (node.getKind() == Tree.Kind.DIVIDE_ASSIGNMENT || node.getKind() == Tree.Kind.REMAINDER_ASSIGNMENT) {
            no("divisor that nobody looked at", node);
        }
        return super.visitCompoundAssignment(node, none);
    }

    @Override
    public Void visitBinary(BinaryTree node, Void none) {
        boolean divides = node.getKind() == Tree.Kind.DIVIDE || node.getKind() == Tree.Kind.REMAINDER;
        // These are looked at ahead of it: common == 0 is refused, b != 0 keeps the loop going.
        Set<String> lookedAt = Set.of("2", "common", "b");
        if (divides && !lookedAt.contains(node.getRightOperand().toString())) {
            no("divisor that nobody looked at", node);
        }
        return super.visitBinary(node, none);
    }

    @Override
    public Void visitIdentifier(IdentifierTree node, Void none) {
        Element e = trees.getElement(getCurrentPath());
        if (e != null && (e.getKind().isClass() || e.getKind().isInterface())) {
            String name = node.getName().toString();
            Check.holds("a class that may be: " + name,
                own.contains(name) || Set.of("Math", "Integer", "System", "Arrays").contains(name));
        }
        return super.visitIdentifier(node, none);
    }
}
