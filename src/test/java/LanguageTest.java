import com.sun.source.tree.ArrayAccessTree;
import com.sun.source.tree.AssertTree;
import com.sun.source.tree.AssignmentTree;
import com.sun.source.tree.BinaryTree;
import com.sun.source.tree.ClassTree;
import com.sun.source.tree.CompilationUnitTree;
import com.sun.source.tree.CompoundAssignmentTree;
import com.sun.source.tree.ExpressionTree;
import com.sun.source.tree.IdentifierTree;
import com.sun.source.tree.ImportTree;
import com.sun.source.tree.LambdaExpressionTree;
import com.sun.source.tree.LiteralTree;
import com.sun.source.tree.MemberReferenceTree;
import com.sun.source.tree.MethodInvocationTree;
import com.sun.source.tree.MethodTree;
import com.sun.source.tree.NewArrayTree;
import com.sun.source.tree.NewClassTree;
import com.sun.source.tree.SynchronizedTree;
import com.sun.source.tree.ThrowTree;
import com.sun.source.tree.Tree;
import com.sun.source.tree.TryTree;
import com.sun.source.tree.TypeCastTree;
import com.sun.source.tree.VariableTree;
import com.sun.source.util.JavacTask;
import com.sun.source.util.TreePath;
import com.sun.source.util.TreePathScanner;
import com.sun.source.util.TreeScanner;
import com.sun.source.util.Trees;
import java.io.IOException;
import java.nio.file.Path;
import java.util.HashMap;
import java.util.HashSet;
import java.util.LinkedHashMap;
import java.util.LinkedHashSet;
import java.util.List;
import java.util.Map;
import java.util.Set;
import javax.lang.model.element.Element;
import javax.lang.model.element.ElementKind;
import javax.lang.model.element.Modifier;
import javax.lang.model.element.VariableElement;
import javax.lang.model.type.ArrayType;
import javax.lang.model.type.TypeKind;
import javax.lang.model.type.TypeMirror;
import javax.tools.JavaCompiler;
import javax.tools.StandardJavaFileManager;
import javax.tools.ToolProvider;

/**
 * The rules of LANGUAGE.md that the compiler's own tree of the source can show. Where the program
 * needs less than a rule leaves it, the test asks for that less.
 */
public final class LanguageTest {
    private static final Set<String> LIBRARY = Set.of("java.lang.System.arraycopy", "java.util.Arrays.fill",
        "java.util.Arrays.copyOf", "java.lang.Math.max", "java.lang.Math.floorDiv", "java.lang.Long.signum");
    private static final Set<Tree.Kind> COMPARING = Set.of(Tree.Kind.LESS_THAN, Tree.Kind.GREATER_THAN,
        Tree.Kind.LESS_THAN_EQUAL, Tree.Kind.GREATER_THAN_EQUAL, Tree.Kind.EQUAL_TO, Tree.Kind.NOT_EQUAL_TO);
    private static final Set<Tree.Kind> DIVIDING = Set.of(Tree.Kind.DIVIDE, Tree.Kind.REMAINDER,
        Tree.Kind.DIVIDE_ASSIGNMENT, Tree.Kind.REMAINDER_ASSIGNMENT);
    private static final Map<Element, Set<Element>> CALLS = new LinkedHashMap<>();
    private static final Map<Element, Integer> DEPTH = new HashMap<>();
    private static int wrong = 0;
    private static int looked = 0;

    public static void main(String[] args) throws IOException {
        Path root = Path.of(System.getProperty("project.root", "."));
        JavaCompiler compiler = ToolProvider.getSystemJavaCompiler();
        try (StandardJavaFileManager files = compiler.getStandardFileManager(null, null, null)) {
            JavacTask task = (JavacTask) compiler.getTask(null, files, null, List.of("-proc:none"), null,
                files.getJavaFileObjects(root.resolve("src/main/java/InfluenceRows.java")));
            for (CompilationUnitTree unit : task.parse()) {
                task.analyze();
                check(1, "one class in the file", unit.getTypeDecls().size() == 1);
                check(1, "no package line", unit.getPackageName() == null);
                new Reader(Trees.instance(task), unit).scan(unit, null);
            }
        }
        depths();
        System.out.println("language: " + looked + " places looked at, " + wrong + " wrong");
        if (wrong > 0) {
            System.exit(1);
        }
    }

    private static void check(int rule, String what, boolean right) {
        looked++;
        if (!right) {
            wrong++;
            System.out.println("rule " + rule + " of LANGUAGE.md: " + what);
        }
    }

    private static void depths() {
        check(11, "methods that call others are seen", CALLS.size() > 50);
        for (Element method : CALLS.keySet()) {
            check(11, method + " goes " + depth(method, new HashSet<>()) + " calls deep",
                depth(method, new HashSet<>()) <= 8);
        }
    }

    /** How many calls stand open below this one, itself counted. */
    private static int depth(Element method, Set<Element> open) {
        if (DEPTH.containsKey(method)) {
            return DEPTH.get(method);
        }
        if (!open.add(method)) {
            check(8, method + " calls itself", false);
            return 0;
        }
        int most = 0;
        for (Element called : CALLS.getOrDefault(method, Set.of())) {
            most = Math.max(most, depth(called, open));
        }
        open.remove(method);
        DEPTH.put(method, most + 1);
        return most + 1;
    }

    private static final class Reader extends TreePathScanner<Void, Void> {
        private final Trees trees;
        private final CompilationUnitTree unit;
        private MethodTree method;
        private int classes = 0;

        Reader(Trees trees, CompilationUnitTree unit) {
            this.trees = trees;
            this.unit = unit;
        }

        private Element elementOf(Tree tree) {
            return trees.getElement(new TreePath(getCurrentPath(), tree));
        }

        private String told(Tree tree) {
            long start = trees.getSourcePositions().getStartPosition(unit, tree);
            return "line " + unit.getLineMap().getLineNumber(start) + ", " + tree.toString().split("\n")[0];
        }

        private long linesOf(Tree tree) {
            long from = trees.getSourcePositions().getStartPosition(unit, tree);
            long to = trees.getSourcePositions().getEndPosition(unit, tree);
            return unit.getLineMap().getLineNumber(to) - unit.getLineMap().getLineNumber(from) + 1;
        }

        private boolean isInConstructor() {
            return method != null && method.getReturnType() == null;
        }

        @Override
        public Void visitImport(ImportTree tree, Void none) {
            check(4, told(tree), tree.getQualifiedIdentifier().toString().equals("java.util.Arrays"));
            return null;
        }

        @Override
        public Void visitClass(ClassTree tree, Void none) {
            classes++;
            check(11, "some twelve classes", classes <= 12);
            check(2, told(tree) + " is no local class", method == null);
            boolean inside = getCurrentPath().getParentPath().getLeaf() instanceof ClassTree;
            Set<Modifier> flags = tree.getModifiers().getFlags();
            check(2, told(tree) + " is static", !inside || flags.contains(Modifier.STATIC));
            int fields = 0;
            for (Tree member : tree.getMembers()) {
                check(5, told(member) + " is no initialiser block", member.getKind() != Tree.Kind.BLOCK);
                boolean field = member instanceof VariableTree one
                    && !one.getModifiers().getFlags().contains(Modifier.STATIC);
                fields += field ? 1 : 0;
            }
            check(11, told(tree) + " has " + fields + " fields", fields <= 20);
            return super.visitClass(tree, none);
        }

        @Override
        public Void visitMethod(MethodTree tree, Void none) {
            method = tree;
            CALLS.computeIfAbsent(elementOf(tree), e -> new LinkedHashSet<>());
            check(11, told(tree) + " has too many parameters", tree.getParameters().size() <= 7);
            check(11, told(tree) + " has " + linesOf(tree) + " lines", linesOf(tree) <= 60);
            check(3, told(tree) + " answers a type that is left", isAnswered(tree.getReturnType()));
            check(6, told(tree), !Set.of("equals", "hashCode", "toString").contains(tree.getName().toString()));
            super.visitMethod(tree, none);
            method = null;
            return null;
        }

        private boolean isAnswered(Tree type) {
            return type == null || type.toString().equals("void")
                || isLeft(trees.getTypeMirror(new TreePath(getCurrentPath(), type)));
        }

        @Override
        public Void visitVariable(VariableTree tree, Void none) {
            Element element = elementOf(tree);
            check(3, told(tree) + " has a type that is left", isLeft(element.asType()));
            if (element.getKind() == ElementKind.FIELD && element.getModifiers().contains(Modifier.STATIC)) {
                check(5, told(tree) + " is final", element.getModifiers().contains(Modifier.FINAL));
                boolean written = tree.getInitializer() instanceof NewArrayTree array && array.getInitializers() != null;
                check(5, told(tree) + " is a constant", written || ((VariableElement) element).getConstantValue() != null);
            }
            return super.visitVariable(tree, none);
        }

        /** Numbers and boolean, own classes, and arrays of one dimension of these. */
        private boolean isLeft(TypeMirror type) {
            TypeMirror inner = type instanceof ArrayType array ? array.getComponentType() : type;
            boolean number = inner.getKind().isPrimitive() && inner.getKind() != TypeKind.DOUBLE
                && inner.getKind() != TypeKind.FLOAT;
            return number || inner.toString().startsWith("InfluenceRows");
        }

        @Override
        public Void visitMethodInvocation(MethodInvocationTree tree, Void none) {
            Element called = elementOf(tree.getMethodSelect());
            String owner = called.getEnclosingElement().toString();
            boolean own = owner.startsWith("InfluenceRows");
            boolean upper = called.getKind() == ElementKind.CONSTRUCTOR;
            CALLS.get(elementOf(method)).add(called);
            check(4, told(tree) + " is in the library", own || upper || LIBRARY.contains(owner + "." + called.getSimpleName()));
            check(12, told(tree) + " in a constructor", !isInConstructor() || !own || upper);
            // "System.arraycopy; Arrays.copyOf, Arrays.copyOfRange, Arrays.fill over arrays of numbers": of no others.
            for (ExpressionTree argument : tree.getArguments()) {
                TypeMirror type = trees.getTypeMirror(new TreePath(getCurrentPath(), argument));
                boolean ofNumbers = !(type instanceof ArrayType array) || array.getComponentType().getKind().isPrimitive()
                    && array.getComponentType().getKind() != TypeKind.BOOLEAN;
                check(4, told(tree) + " takes an array of numbers", own || ofNumbers);
            }
            return super.visitMethodInvocation(tree, none);
        }

        @Override
        public Void visitNewClass(NewClassTree tree, Void none) {
            String made = trees.getTypeMirror(getCurrentPath()).toString();
            check(2, told(tree) + " has no body", tree.getClassBody() == null);
            check(4, told(tree) + " is an own object, or is thrown",
                made.startsWith("InfluenceRows") || getCurrentPath().getParentPath().getLeaf() instanceof ThrowTree);
            if (method != null) {
                CALLS.get(elementOf(method)).add(elementOf(tree));
            }
            return super.visitNewClass(tree, none);
        }

        @Override
        public Void visitThrow(ThrowTree tree, Void none) {
            boolean right = tree.getExpression() instanceof NewClassTree made
                && made.getIdentifier().toString().equals("ArrayIndexOutOfBoundsException")
                && made.getArguments().size() == 1 && made.getArguments().get(0) instanceof LiteralTree;
            check(6, told(tree) + " is the document's exception with a written text", right && !isInConstructor());
            return super.visitThrow(tree, none);
        }

        @Override
        public Void visitTypeCast(TypeCastTree tree, Void none) {
            TypeMirror type = trees.getTypeMirror(new TreePath(getCurrentPath(), tree.getType()));
            check(6, told(tree) + " is a cast of numbers", type.getKind().isPrimitive() && isLeft(type));
            return super.visitTypeCast(tree, none);
        }

        @Override
        public Void visitAssignment(AssignmentTree tree, Void none) {
            changes(tree.getVariable());
            return super.visitAssignment(tree, none);
        }

        @Override
        public Void visitCompoundAssignment(CompoundAssignmentTree tree, Void none) {
            changes(tree.getVariable());
            if (DIVIDING.contains(tree.getKind())) {
                divides(tree, tree.getExpression());
            }
            return super.visitCompoundAssignment(tree, none);
        }

        private void changes(ExpressionTree target) {
            if (target instanceof ArrayAccessTree access) {
                Element array = elementOf(access.getExpression());
                check(5, told(target) + " of an array that is never changed",
                    array != null && !array.getModifiers().contains(Modifier.STATIC));
            }
        }

        @Override
        public Void visitBinary(BinaryTree tree, Void none) {
            if (DIVIDING.contains(tree.getKind())) {
                divides(tree, tree.getRightOperand());
            }
            check(10, told(tree) + " joins no texts", !trees.getTypeMirror(getCurrentPath()).toString().equals("java.lang.String"));
            return super.visitBinary(tree, none);
        }

        /** A divisor is a constant, or the method compares what it is made of. */
        private void divides(Tree tree, ExpressionTree divisor) {
            Set<String> changing = new HashSet<>();
            namesIn(divisor, changing);
            Set<String> compared = new HashSet<>();
            new TreeScanner<Void, Void>() {
                @Override
                public Void visitBinary(BinaryTree inner, Void none) {
                    if (COMPARING.contains(inner.getKind())) {
                        namesIn(inner, compared);
                    }
                    return super.visitBinary(inner, none);
                }
            }.scan(method, null);
            changing.removeAll(compared);
            check(7, told(tree) + " has a divisor that is looked at", changing.isEmpty());
        }

        private void namesIn(Tree tree, Set<String> names) {
            TreePath outer = getCurrentPath();
            new TreePathScanner<Void, Void>() {
                @Override
                public Void visitIdentifier(IdentifierTree one, Void none) {
                    Element element = trees.getElement(new TreePath(outer, one));
                    boolean constant = element instanceof VariableElement field && field.getConstantValue() != null;
                    if (!constant) {
                        names.add(one.getName().toString());
                    }
                    return null;
                }
            }.scan(new TreePath(outer, tree), null);
        }

        @Override
        public Void visitTry(TryTree tree, Void none) {
            check(6, told(tree), false);
            return super.visitTry(tree, none);
        }

        @Override
        public Void visitLambdaExpression(LambdaExpressionTree tree, Void none) {
            check(2, told(tree), false);
            return super.visitLambdaExpression(tree, none);
        }

        @Override
        public Void visitMemberReference(MemberReferenceTree tree, Void none) {
            check(2, told(tree), false);
            return super.visitMemberReference(tree, none);
        }

        @Override
        public Void visitSynchronized(SynchronizedTree tree, Void none) {
            check(6, told(tree), false);
            return super.visitSynchronized(tree, none);
        }

        @Override
        public Void visitAssert(AssertTree tree, Void none) {
            check(6, told(tree), false);
            return super.visitAssert(tree, none);
        }
    }
}
