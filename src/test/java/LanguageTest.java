import com.sun.source.tree.ArrayAccessTree;
import com.sun.source.tree.AssignmentTree;
import com.sun.source.tree.BinaryTree;
import com.sun.source.tree.ClassTree;
import com.sun.source.tree.CompilationUnitTree;
import com.sun.source.tree.CompoundAssignmentTree;
import com.sun.source.tree.DoWhileLoopTree;
import com.sun.source.tree.ExpressionTree;
import com.sun.source.tree.ForLoopTree;
import com.sun.source.tree.IdentifierTree;
import com.sun.source.tree.IfTree;
import com.sun.source.tree.MemberSelectTree;
import com.sun.source.tree.MethodInvocationTree;
import com.sun.source.tree.MethodTree;
import com.sun.source.tree.NewArrayTree;
import com.sun.source.tree.NewClassTree;
import com.sun.source.tree.Tree;
import com.sun.source.tree.TypeCastTree;
import com.sun.source.tree.UnaryTree;
import com.sun.source.tree.VariableTree;
import com.sun.source.tree.WhileLoopTree;
import com.sun.source.util.JavacTask;
import com.sun.source.util.TreePath;
import com.sun.source.util.TreePathScanner;
import com.sun.source.util.Trees;
import java.io.IOException;
import java.nio.file.Path;
import java.util.ArrayDeque;
import java.util.Deque;
import java.util.List;
import java.util.Map;
import java.util.Set;
import java.util.TreeMap;
import java.util.TreeSet;
import java.util.regex.Pattern;
import javax.lang.model.element.Element;
import javax.lang.model.element.ElementKind;
import javax.lang.model.element.ExecutableElement;
import javax.lang.model.element.Modifier;
import javax.lang.model.element.TypeElement;
import javax.lang.model.element.VariableElement;
import javax.lang.model.type.ArrayType;
import javax.lang.model.type.DeclaredType;
import javax.lang.model.type.TypeKind;
import javax.lang.model.type.TypeMirror;
import javax.tools.JavaCompiler;
import javax.tools.StandardJavaFileManager;
import javax.tools.ToolProvider;

/**
 * The rules of ../shared/LANGUAGE.md that javac's own tree of the file shows, some of them closer than the rules are:
 * what the program does not use is left out here too. Rule 7 is run by RefusalsTest and ModelTest.
 */
public final class LanguageTest extends TreePathScanner<Void, Void> {
    private static final Path SOURCE = Path.of("src/main/java/LeftQuills.java");
    private static final Set<Tree.Kind> LEFT_OUT = Set.of(
        Tree.Kind.THROW, Tree.Kind.TRY, Tree.Kind.CATCH, Tree.Kind.SYNCHRONIZED, Tree.Kind.ASSERT, Tree.Kind.LAMBDA_EXPRESSION,
        Tree.Kind.MEMBER_REFERENCE, Tree.Kind.IMPORT, Tree.Kind.PACKAGE, Tree.Kind.INSTANCE_OF, Tree.Kind.DOUBLE_LITERAL, Tree.Kind.FLOAT_LITERAL);
    private static final Set<Tree.Kind> CHANGES = Set.of(
        Tree.Kind.PREFIX_INCREMENT, Tree.Kind.PREFIX_DECREMENT, Tree.Kind.POSTFIX_INCREMENT, Tree.Kind.POSTFIX_DECREMENT);
    private static final Set<String> LIBRARY = Set.of(
        "java.lang.Math.max", "java.lang.Math.min", "java.lang.Math.abs", "java.lang.Integer.bitCount", "java.lang.System.arraycopy");
    private static final Due DUE = new Due();

    private final Trees trees;
    private final CompilationUnitTree unit;
    private final Deque<String> methods = new ArrayDeque<>();
    private final Map<String, Set<String>> callees = new TreeMap<>();
    private final Set<String> privateMethods = new TreeSet<>();
    /** The conditions of the method's ifs so far. */
    private final StringBuilder looked = new StringBuilder();
    private int classes = 0;

    private LanguageTest(Trees trees, CompilationUnitTree unit) {
        this.trees = trees;
        this.unit = unit;
    }

    public static void main(String[] args) throws IOException {
        JavaCompiler compiler = ToolProvider.getSystemJavaCompiler();
        try (StandardJavaFileManager files = compiler.getStandardFileManager(null, null, null)) {
            JavacTask task = (JavacTask) compiler.getTask(null, files, null, List.of("--release", "17"), null, files.getJavaFileObjects(SOURCE));
            CompilationUnitTree unit = task.parse().iterator().next();
            task.analyze();
            LanguageTest test = new LanguageTest(Trees.instance(task), unit);
            test.scan(unit, null);
            test.rule11Classes();
            test.rules8And11Calls();
        }
        DUE.end();
    }

    private void rule(int rule, String what, boolean holds) {
        DUE.is("rule " + rule + ": " + what, holds ? 1 : 0, 1);
    }

    private String place(Tree tree) {
        long at = trees.getSourcePositions().getStartPosition(unit, tree);
        return "line " + unit.getLineMap().getLineNumber(at);
    }

    private boolean isOwn(Element element) {
        Element outer = element;
        while (outer != null && outer.getKind() != ElementKind.PACKAGE) {
            if (outer.getSimpleName().contentEquals("LeftQuills")) {
                return true;
            }
            outer = outer.getEnclosingElement();
        }
        return false;
    }

    @Override
    public Void scan(Tree tree, Void nothing) {
        if (tree != null) {
            rule(6, "left out: " + tree.getKind(), !LEFT_OUT.contains(tree.getKind()));
        }
        return super.scan(tree, nothing);
    }

    // ---- classes and their members

    @Override
    public Void visitClass(ClassTree tree, Void nothing) {
        classes++;
        Element element = trees.getElement(getCurrentPath());
        Set<Modifier> modifiers = element.getModifiers();
        String name = tree.getSimpleName().toString();
        if (name.equals("LeftQuills")) {
            rule(1, "public and final, and no more", modifiers.equals(Set.of(Modifier.PUBLIC, Modifier.FINAL)));
        } else {
            rule(2, name + " is a member", element.getEnclosingElement().getKind().isClass());
            rule(2, name + " is static", modifiers.contains(Modifier.STATIC));
            rule(12, name + " is final, so that none of its methods can be overridden", modifiers.contains(Modifier.FINAL));
            rule(1, name + " is hidden", !modifiers.contains(Modifier.PUBLIC) && !modifiers.contains(Modifier.PROTECTED));
            rule(2, name + " has no parent", tree.getExtendsClause() == null && tree.getImplementsClause().isEmpty());
        }
        int fields = 0;
        for (Tree member : tree.getMembers()) {
            rule(5, name + " has no block of its own", member.getKind() != Tree.Kind.BLOCK);
            if (member instanceof VariableTree field && !field.getModifiers().getFlags().contains(Modifier.STATIC)) {
                fields++;
            }
        }
        rule(11, name + " has twenty fields at most", fields <= 20);
        return super.visitClass(tree, nothing);
    }

    @Override
    public Void visitVariable(VariableTree tree, Void nothing) {
        VariableElement element = (VariableElement) trees.getElement(getCurrentPath());
        rule(3, "the type of " + tree.getName() + ", " + place(tree), isLeftType(element.asType(), 0));
        if (element.getModifiers().contains(Modifier.STATIC)) {
            rule(5, tree.getName() + " is final", element.getModifiers().contains(Modifier.FINAL));
            boolean isWrittenOut = tree.getInitializer() instanceof NewArrayTree row && row.getInitializers() != null;
            rule(5, tree.getName() + " is a constant", element.getConstantValue() != null || isWrittenOut);
        }
        return super.visitVariable(tree, nothing);
    }

    /** Whole numbers and boolean, rows of one dimension, classes of its own. */
    private boolean isLeftType(TypeMirror type, int dimensions) {
        if (type.getKind() == TypeKind.ARRAY) {
            return dimensions < 1 && isLeftType(((ArrayType) type).getComponentType(), dimensions + 1);
        }
        if (type.getKind().isPrimitive()) {
            return type.getKind() != TypeKind.DOUBLE && type.getKind() != TypeKind.FLOAT;
        }
        return type.getKind() == TypeKind.DECLARED && isOwn(((DeclaredType) type).asElement());
    }

    @Override
    public Void visitMethod(MethodTree tree, Void nothing) {
        ExecutableElement element = (ExecutableElement) trees.getElement(getCurrentPath());
        rule(11, tree.getName() + " has seven parameters at most", tree.getParameters().size() <= 7);
        long start = trees.getSourcePositions().getStartPosition(unit, tree);
        long end = trees.getSourcePositions().getEndPosition(unit, tree);
        if (start >= 0 && end >= start) {
            rule(11, tree.getName() + " has sixty lines at most", unit.getLineMap().getLineNumber(end) - unit.getLineMap().getLineNumber(start) < 60);
        }
        String name = name(element);
        rule(1, name + " bears no public name", element.getModifiers().contains(Modifier.PUBLIC) || !FaceTest.dueMethods().containsKey(tree.getName().toString()));
        rule(6, name + " is no equals, hashCode, toString", !Set.of("equals", "hashCode", "toString").contains(tree.getName().toString()));
        callees.putIfAbsent(name, new TreeSet<>());
        if (element.getModifiers().contains(Modifier.PRIVATE)) {
            privateMethods.add(name);
        }
        methods.push(name);
        looked.setLength(0);
        super.visitMethod(tree, nothing);
        methods.pop();
        return null;
    }

    private static String name(ExecutableElement element) {
        return ((TypeElement) element.getEnclosingElement()).getSimpleName() + "." + element.getSimpleName();
    }

    // ---- what stands in methods

    @Override
    public Void visitMethodInvocation(MethodInvocationTree tree, Void nothing) {
        ExecutableElement called = (ExecutableElement) trees.getElement(new TreePath(getCurrentPath(), tree.getMethodSelect()));
        boolean isSuper = called.getKind() == ElementKind.CONSTRUCTOR;
        rule(12, "a constructor calls no method of its own, " + place(tree), isSuper || !isMadeWithTheObject());
        if (isOwn(called) && !methods.isEmpty()) {
            callees.get(methods.peek()).add(name(called));
        } else if (!isSuper) {
            rule(4, "the library has " + called.getEnclosingElement() + "." + called.getSimpleName() + ", " + place(tree),
                LIBRARY.contains(called.getEnclosingElement() + "." + called.getSimpleName()));
            if (called.getSimpleName().contentEquals("arraycopy")) {
                rowIsChanged(tree.getArguments().get(2));
            }
        }
        return super.visitMethodInvocation(tree, nothing);
    }

    @Override
    public Void visitMemberSelect(MemberSelectTree tree, Void nothing) {
        Element element = trees.getElement(getCurrentPath());
        if (element != null && element.getKind() == ElementKind.FIELD) {
            boolean isLength = tree.getIdentifier().contentEquals("length");
            rule(4, "field " + tree + ", " + place(tree), isOwn(element) || isLength);
        }
        return super.visitMemberSelect(tree, nothing);
    }

    /** Closer than rule 12: rows and objects are made with the object alone, never by a call. */
    private boolean isMadeWithTheObject() {
        return methods.isEmpty() || methods.peek().endsWith(".<init>");
    }

    @Override
    public Void visitNewClass(NewClassTree tree, Void nothing) {
        rule(2, "no body of its own, " + place(tree), tree.getClassBody() == null);
        rule(4, "a class of its own, " + place(tree), isOwn(trees.getElement(getCurrentPath())));
        rule(12, "made with the object, " + place(tree), isMadeWithTheObject());
        return super.visitNewClass(tree, nothing);
    }

    @Override
    public Void visitNewArray(NewArrayTree tree, Void nothing) {
        rule(12, "made with the object, " + place(tree), isMadeWithTheObject());
        return super.visitNewArray(tree, nothing);
    }

    @Override
    public Void visitTypeCast(TypeCastTree tree, Void nothing) {
        rule(6, "a cast among numbers, " + place(tree), tree.getType().getKind() == Tree.Kind.PRIMITIVE_TYPE);
        return super.visitTypeCast(tree, nothing);
    }

    @Override
    public Void visitBinary(BinaryTree tree, Void nothing) {
        TypeMirror type = trees.getTypeMirror(getCurrentPath());
        rule(10, "no texts are joined, " + place(tree), type == null || type.getKind().isPrimitive());
        if (tree.getKind() == Tree.Kind.DIVIDE || tree.getKind() == Tree.Kind.REMAINDER) {
            rule(7, "the divisor is looked at, " + place(tree), isLookedAt(tree.getRightOperand()));
        }
        return super.visitBinary(tree, nothing);
    }

    /** A constant, 1 at least by Math.max, or named in the condition of an if ahead of it in the same method. */
    private boolean isLookedAt(ExpressionTree divisor) {
        if (divisor.getKind() == Tree.Kind.INT_LITERAL) {
            return !divisor.toString().equals("0");
        }
        Element element = trees.getElement(new TreePath(getCurrentPath(), divisor));
        if (element instanceof VariableElement variable && variable.getConstantValue() != null) {
            return ((Number) variable.getConstantValue()).longValue() != 0;
        }
        return divisor.toString().startsWith("Math.max(1, ") || Pattern.compile("\\b" + Pattern.quote(divisor.toString()) + "\\b").matcher(looked).find();
    }

    @Override
    public Void visitIf(IfTree tree, Void nothing) {
        looked.append(tree.getCondition()).append('\n');
        return super.visitIf(tree, nothing);
    }

    // ---- what is changed

    /** Only rows and fields of objects, and what is local; a row that was handed over could be a static one. */
    private void changed(ExpressionTree target) {
        if (target instanceof ArrayAccessTree access) {
            rowIsChanged(access.getExpression());
        }
    }

    private void rowIsChanged(ExpressionTree row) {
        Element element = trees.getElement(new TreePath(getCurrentPath(), row));
        rule(5, "a row of an object is changed, " + place(row),
            element != null && element.getKind() == ElementKind.FIELD && !element.getModifiers().contains(Modifier.STATIC));
    }

    @Override
    public Void visitAssignment(AssignmentTree tree, Void nothing) {
        changed(tree.getVariable());
        return super.visitAssignment(tree, nothing);
    }

    @Override
    public Void visitCompoundAssignment(CompoundAssignmentTree tree, Void nothing) {
        changed(tree.getVariable());
        rule(7, "no divisor is hidden, " + place(tree), tree.getKind() != Tree.Kind.DIVIDE_ASSIGNMENT && tree.getKind() != Tree.Kind.REMAINDER_ASSIGNMENT);
        return super.visitCompoundAssignment(tree, nothing);
    }

    @Override
    public Void visitUnary(UnaryTree tree, Void nothing) {
        if (CHANGES.contains(tree.getKind())) {
            changed(tree.getExpression());
        }
        return super.visitUnary(tree, nothing);
    }

    // ---- loops

    private void loop(Tree tree, ExpressionTree condition) {
        rule(9, "the loop has an end, " + place(tree), condition != null && !condition.toString().replaceAll("[()]", "").equals("true"));
    }

    @Override
    public Void visitWhileLoop(WhileLoopTree tree, Void nothing) {
        loop(tree, tree.getCondition());
        return super.visitWhileLoop(tree, nothing);
    }

    @Override
    public Void visitDoWhileLoop(DoWhileLoopTree tree, Void nothing) {
        loop(tree, tree.getCondition());
        return super.visitDoWhileLoop(tree, nothing);
    }

    @Override
    public Void visitForLoop(ForLoopTree tree, Void nothing) {
        loop(tree, tree.getCondition());
        rule(9, "the loop has a counter, " + place(tree), tree.getInitializer().size() == 1 && tree.getUpdate().size() == 1);
        return super.visitForLoop(tree, nothing);
    }

    @Override
    public Void visitIdentifier(IdentifierTree tree, Void nothing) {
        Element element = trees.getElement(getCurrentPath());
        boolean isWhole = tree.getName().contentEquals("this") && !(getCurrentPath().getParentPath().getLeaf() instanceof MemberSelectTree);
        rule(12, "the object is not handed out, " + place(tree), !isWhole);
        boolean isType = element instanceof TypeElement;
        rule(3, "a class of its own or of the library: " + tree + ", " + place(tree),
            !isType || isOwn(element) || Set.of("Math", "Integer", "System").contains(tree.getName().toString()));
        return super.visitIdentifier(tree, nothing);
    }

    // ---- the whole

    private void rule11Classes() {
        rule(11, "twelve classes at most, there are " + classes, classes <= 12);
    }

    private void rules8And11Calls() {
        for (String name : callees.keySet()) {
            boolean isRecursion = reaches(name, name, new TreeSet<>());
            rule(8, name + " calls itself, so it is private", !isRecursion || privateMethods.contains(name));
            int deep = deepest(name, new ArrayDeque<>());
            rule(11, name + " goes eight deep at most, it goes " + deep, deep <= 8);
        }
    }

    private boolean reaches(String from, String to, Set<String> seen) {
        for (String next : callees.getOrDefault(from, Set.of())) {
            if (next.equals(to) || seen.add(next) && reaches(next, to, seen)) {
                return true;
            }
        }
        return false;
    }

    /** Methods on the longest way of calls, each once. */
    private int deepest(String name, Deque<String> open) {
        if (open.contains(name)) {
            return 0;
        }
        open.push(name);
        int deep = 0;
        for (String next : callees.getOrDefault(name, Set.of())) {
            deep = Math.max(deep, deepest(next, open));
        }
        open.pop();
        return deep + 1;
    }
}
