import com.sun.source.tree.AssertTree;
import com.sun.source.tree.BinaryTree;
import com.sun.source.tree.BlockTree;
import com.sun.source.tree.ClassTree;
import com.sun.source.tree.CompilationUnitTree;
import com.sun.source.tree.CompoundAssignmentTree;
import com.sun.source.tree.DoWhileLoopTree;
import com.sun.source.tree.EnhancedForLoopTree;
import com.sun.source.tree.ExpressionTree;
import com.sun.source.tree.ForLoopTree;
import com.sun.source.tree.InstanceOfTree;
import com.sun.source.tree.LambdaExpressionTree;
import com.sun.source.tree.LiteralTree;
import com.sun.source.tree.MemberReferenceTree;
import com.sun.source.tree.MethodInvocationTree;
import com.sun.source.tree.MethodTree;
import com.sun.source.tree.NewArrayTree;
import com.sun.source.tree.NewClassTree;
import com.sun.source.tree.SynchronizedTree;
import com.sun.source.tree.ThrowTree;
import com.sun.source.tree.Tree;
import com.sun.source.tree.TryTree;
import com.sun.source.tree.TypeCastTree;
import com.sun.source.tree.VariableTree;
import com.sun.source.tree.WhileLoopTree;
import com.sun.source.util.JavacTask;
import com.sun.source.util.TreePath;
import com.sun.source.util.TreePathScanner;
import com.sun.source.util.Trees;
import java.nio.file.Path;
import java.util.HashMap;
import java.util.HashSet;
import java.util.LinkedHashMap;
import java.util.LinkedHashSet;
import java.util.List;
import java.util.Map;
import java.util.Set;
import javax.lang.model.element.Element;
import javax.lang.model.element.ElementKind;
import javax.lang.model.element.Modifier;
import javax.lang.model.type.ArrayType;
import javax.lang.model.type.TypeKind;
import javax.lang.model.type.TypeMirror;
import javax.lang.model.util.ElementFilter;
import javax.tools.JavaCompiler;
import javax.tools.StandardJavaFileManager;
import javax.tools.ToolProvider;

/**
 * The program keeps to the rules of LANGUAGE.md that can be seen in its tree: the library, types, exceptions,
 * depths and lengths. What it may use is narrower here than there: this is what the program needs.
 */
public final class LanguageTest {
    private static final Path PROGRAM = Path.of("src/main/java/PolynomialBench.java");
    private static final Set<String> LIBRARY = Set.of("Math.max", "Math.min", "Math.abs", "Math.floorDiv",
            "System.arraycopy");
    private static final Set<String> EXCEPTIONS = Set.of("IllegalStateException", "IllegalArgumentException",
            "IndexOutOfBoundsException", "NoSuchElementException");
    private static final Set<TypeKind> NUMBERS = Set.of(TypeKind.INT, TypeKind.LONG, TypeKind.BOOLEAN,
            TypeKind.DOUBLE, TypeKind.FLOAT);
    private static final int DEEPEST = 8;
    private static final int LINES = 60;
    private static final int PARAMETERS = 7;
    private static final int FIELDS = 20;
    private static final int CLASSES = 12;

    private static final Due DUE = new Due("LanguageTest");

    public static void main(String[] args) throws Exception {
        JavaCompiler compiler = ToolProvider.getSystemJavaCompiler();
        StandardJavaFileManager files = compiler.getStandardFileManager(null, null, null);
        JavacTask task = (JavacTask) compiler.getTask(null, files, null, List.of("-proc:none"), null,
                files.getJavaFileObjects(PROGRAM));
        CompilationUnitTree unit = task.parse().iterator().next();
        task.analyze();
        rule1OneFile(unit);
        Reader reader = new Reader(unit, Trees.instance(task));
        reader.scan(unit, null);
        DUE.is("rule 11: at most " + CLASSES + " classes", reader.classes <= CLASSES, true);
        rule8NoCallTooDeep(reader.calls);
        everyMethodIsUsed(reader.calls);
        DUE.end();
    }

    private static void rule1OneFile(CompilationUnitTree unit) {
        DUE.same("rule 1: classes beside the public one", unit.getTypeDecls().size(), 1);
        DUE.is("rule 1: no package line", unit.getPackage() == null, true);
        DUE.text("rule 4: what is imported", unit.getImports().toString().trim(),
                "import java.util.NoSuchElementException;");
    }

    /** A method is as deep as the deepest one that it calls, and one more; the library's are one deep. */
    private static void rule8NoCallTooDeep(Map<Element, Set<Element>> calls) {
        Map<Element, Integer> depths = new HashMap<>();
        for (Element method : calls.keySet()) {
            int depth = depth(method, calls, depths, 0);
            DUE.is("rule 11: " + method + " is " + depth + " calls deep", depth <= DEEPEST, true);
        }
    }

    private static int depth(Element method, Map<Element, Set<Element>> calls, Map<Element, Integer> depths, int open) {
        Integer known = depths.get(method);
        if (known != null) {
            return known;
        }
        if (open > calls.size()) {
            DUE.fail("rule 8: " + method + " calls itself");
            return open;
        }
        int deepest = 0;
        for (Element next : calls.getOrDefault(method, Set.of())) {
            deepest = Math.max(deepest, depth(next, calls, depths, open + 1));
        }
        depths.put(method, deepest + 1);
        return deepest + 1;
    }

    private static void everyMethodIsUsed(Map<Element, Set<Element>> calls) {
        Set<Element> used = new HashSet<>();
        calls.values().forEach(used::addAll);
        for (Element method : calls.keySet()) {
            boolean isOpen = method.getModifiers().contains(Modifier.PUBLIC);
            DUE.is("somebody calls " + method, isOpen || used.contains(method), true);
        }
    }

    /** Walks the tree once, looks at each part, and takes down who calls whom. */
    private static final class Reader extends TreePathScanner<Void, Void> {
        private final CompilationUnitTree unit;
        private final Trees trees;
        private final Map<Element, Set<Element>> calls = new LinkedHashMap<>();
        private int classes;

        Reader(CompilationUnitTree unit, Trees trees) {
            this.unit = unit;
            this.trees = trees;
        }

        private void rule(String rule, Tree tree, boolean holds) {
            long line = unit.getLineMap().getLineNumber(trees.getSourcePositions().getStartPosition(unit, tree));
            DUE.is(rule + ", line " + line, holds, true);
        }

        private void never(String rule, Tree tree) {
            rule(rule, tree, false);
        }

        private Element element() {
            return trees.getElement(getCurrentPath());
        }

        private TypeMirror typeOf(Tree tree) {
            return trees.getTypeMirror(new TreePath(getCurrentPath(), tree));
        }

        private static boolean isOwn(Element element) {
            for (Element e = element; e != null; e = e.getEnclosingElement()) {
                if (e.getSimpleName().contentEquals("PolynomialBench")) {
                    return true;
                }
            }
            return false;
        }

        /** The method around; around the first value of a field, the constructor of its class. */
        private Element methodAround() {
            TreePath path = getCurrentPath();
            while (!(path.getLeaf() instanceof MethodTree) && !(path.getLeaf() instanceof ClassTree)) {
                path = path.getParentPath();
            }
            Element around = trees.getElement(path);
            return around.getKind() == ElementKind.CLASS ? constructorOf(around) : around;
        }

        private static Element constructorOf(Element type) {
            return ElementFilter.constructorsIn(type.getEnclosedElements()).get(0);
        }

        private boolean isInConstructor() {
            return methodAround().getKind() == ElementKind.CONSTRUCTOR;
        }

        private void calls(Element called) {
            calls.computeIfAbsent(methodAround(), e -> new LinkedHashSet<>()).add(called);
        }

        @Override
        public Void visitClass(ClassTree tree, Void nothing) {
            classes++;
            rule("rule 2: a plain class", tree, tree.getKind() == Tree.Kind.CLASS && tree.getExtendsClause() == null);
            int fields = 0;
            for (Tree member : tree.getMembers()) {
                rule("rule 5: no initialiser block", member, !(member instanceof BlockTree));
                if (member instanceof VariableTree) {
                    Set<Modifier> modifiers = ((VariableTree) member).getModifiers().getFlags();
                    fields += modifiers.contains(Modifier.STATIC) ? 0 : 1;
                }
            }
            rule("rule 11: at most " + FIELDS + " fields", tree, fields <= FIELDS);
            return super.visitClass(tree, nothing);
        }

        @Override
        public Void visitMethod(MethodTree tree, Void nothing) {
            calls.computeIfAbsent(element(), e -> new LinkedHashSet<>());
            rule("rule 11: at most " + PARAMETERS + " parameters", tree, tree.getParameters().size() <= PARAMETERS);
            long start = trees.getSourcePositions().getStartPosition(unit, tree);
            long end = trees.getSourcePositions().getEndPosition(unit, tree);
            if (end >= 0) {
                long lines = unit.getLineMap().getLineNumber(end) - unit.getLineMap().getLineNumber(start) + 1;
                rule("rule 11: at most " + LINES + " lines", tree, lines <= LINES);
            }
            return super.visitMethod(tree, nothing);
        }

        @Override
        public Void visitVariable(VariableTree tree, Void nothing) {
            Set<Modifier> modifiers = tree.getModifiers().getFlags();
            if (modifiers.contains(Modifier.STATIC)) {
                boolean isConstant = modifiers.contains(Modifier.FINAL) && tree.getInitializer() != null;
                boolean isNumber = typeOf(tree).getKind().isPrimitive();
                rule("rule 5: a static field is a constant", tree, isConstant && isNumber);
            }
            rule("rule 3: the type of " + tree.getName(), tree, isAllowed(typeOf(tree)));
            return super.visitVariable(tree, nothing);
        }

        private boolean isAllowed(TypeMirror type) {
            if (type.getKind() == TypeKind.ARRAY) {
                TypeMirror of = ((ArrayType) type).getComponentType();
                return of.getKind() != TypeKind.ARRAY && isAllowed(of);
            }
            return NUMBERS.contains(type.getKind()) || type.toString().startsWith("PolynomialBench");
        }

        @Override
        public Void visitMethodInvocation(MethodInvocationTree tree, Void nothing) {
            Element called = element();
            boolean isSuper = called.getKind() == ElementKind.CONSTRUCTOR;
            String name = called.getEnclosingElement().getSimpleName() + "." + called.getSimpleName();
            rule("rule 4: " + name, tree, isSuper || isOwn(called) || LIBRARY.contains(name));
            rule("rule 12: a constructor calls no method of its own", tree, !isInConstructor() || !isOwn(called));
            if (!isSuper) {
                calls(called);
            }
            return super.visitMethodInvocation(tree, nothing);
        }

        @Override
        public Void visitNewClass(NewClassTree tree, Void nothing) {
            boolean isThrown = getCurrentPath().getParentPath().getLeaf() instanceof ThrowTree;
            String name = tree.getIdentifier().toString();
            rule("rules 4, 6: new " + name, tree, isThrown ? EXCEPTIONS.contains(name) : isOwn(element()));
            rule("rule 12: objects are made with the desk", tree, isThrown || isInConstructor());
            rule("rule 2: no class without a name", tree, tree.getClassBody() == null);
            calls(element());
            return super.visitNewClass(tree, nothing);
        }

        @Override
        public Void visitNewArray(NewArrayTree tree, Void nothing) {
            rule("rule 12: rows are made with the desk", tree, isInConstructor());
            return super.visitNewArray(tree, nothing);
        }

        @Override
        public Void visitThrow(ThrowTree tree, Void nothing) {
            ExpressionTree thrown = tree.getExpression();
            boolean isWritten = thrown instanceof NewClassTree && ((NewClassTree) thrown).getArguments().size() == 1
                    && ((NewClassTree) thrown).getArguments().get(0) instanceof LiteralTree;
            rule("rule 6: throw new E(\"a written text\")", tree, isWritten && !isInConstructor());
            return super.visitThrow(tree, nothing);
        }

        @Override
        public Void visitBinary(BinaryTree tree, Void nothing) {
            rule("rule 10: texts are not joined by +", tree, !typeOf(tree).toString().equals("java.lang.String"));
            boolean isPlain = typeOf(tree).getKind() != TypeKind.DOUBLE && typeOf(tree).getKind() != TypeKind.FLOAT;
            rule("rule 3: + - * / on doubles", tree, isPlain || tree.getKind() != Tree.Kind.REMAINDER);
            return super.visitBinary(tree, nothing);
        }

        @Override
        public Void visitCompoundAssignment(CompoundAssignmentTree tree, Void nothing) {
            rule("rule 10: texts are not joined by +=", tree, typeOf(tree).getKind().isPrimitive());
            return super.visitCompoundAssignment(tree, nothing);
        }

        @Override
        public Void visitTypeCast(TypeCastTree tree, Void nothing) {
            rule("a cast of a number", tree, typeOf(tree).getKind().isPrimitive());
            return super.visitTypeCast(tree, nothing);
        }

        @Override
        public Void visitForLoop(ForLoopTree tree, Void nothing) {
            rule("rule 9: a for with a bound", tree, tree.getCondition() != null && !tree.getUpdate().isEmpty());
            return super.visitForLoop(tree, nothing);
        }

        @Override
        public Void visitWhileLoop(WhileLoopTree tree, Void nothing) {
            rule("rule 9: a while with a bound", tree, tree.getCondition().toString().contains("<")
                    || tree.getCondition().toString().contains(">"));
            return super.visitWhileLoop(tree, nothing);
        }

        @Override
        public Void visitDoWhileLoop(DoWhileLoopTree tree, Void nothing) {
            never("the program needs no do", tree);
            return super.visitDoWhileLoop(tree, nothing);
        }

        @Override
        public Void visitEnhancedForLoop(EnhancedForLoopTree tree, Void nothing) {
            rule("rule 12: a for over an array", tree, typeOf(tree.getExpression()).getKind() == TypeKind.ARRAY);
            return super.visitEnhancedForLoop(tree, nothing);
        }

        @Override
        public Void visitTry(TryTree tree, Void nothing) {
            never("the program needs no try", tree);
            return super.visitTry(tree, nothing);
        }

        @Override
        public Void visitLambdaExpression(LambdaExpressionTree tree, Void nothing) {
            never("rule 2: no lambda", tree);
            return super.visitLambdaExpression(tree, nothing);
        }

        @Override
        public Void visitMemberReference(MemberReferenceTree tree, Void nothing) {
            never("rule 2: no method reference", tree);
            return super.visitMemberReference(tree, nothing);
        }

        @Override
        public Void visitSynchronized(SynchronizedTree tree, Void nothing) {
            never("rule 6: no synchronized", tree);
            return super.visitSynchronized(tree, nothing);
        }

        @Override
        public Void visitAssert(AssertTree tree, Void nothing) {
            never("rule 6: no assert", tree);
            return super.visitAssert(tree, nothing);
        }

        @Override
        public Void visitInstanceOf(InstanceOfTree tree, Void nothing) {
            never("the program needs no instanceof", tree);
            return super.visitInstanceOf(tree, nothing);
        }
    }
}
