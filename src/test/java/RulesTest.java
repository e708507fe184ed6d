import com.sun.source.tree.ArrayAccessTree;
import com.sun.source.tree.AssertTree;
import com.sun.source.tree.AssignmentTree;
import com.sun.source.tree.BinaryTree;
import com.sun.source.tree.BlockTree;
import com.sun.source.tree.ClassTree;
import com.sun.source.tree.CompilationUnitTree;
import com.sun.source.tree.CompoundAssignmentTree;
import com.sun.source.tree.DoWhileLoopTree;
import com.sun.source.tree.EnhancedForLoopTree;
import com.sun.source.tree.ExpressionTree;
import com.sun.source.tree.ForLoopTree;
import com.sun.source.tree.LambdaExpressionTree;
import com.sun.source.tree.LiteralTree;
import com.sun.source.tree.MemberReferenceTree;
import com.sun.source.tree.MethodInvocationTree;
import com.sun.source.tree.MethodTree;
import com.sun.source.tree.NewArrayTree;
import com.sun.source.tree.NewClassTree;
import com.sun.source.tree.SynchronizedTree;
import com.sun.source.tree.ThrowTree;
import com.sun.source.tree.Tree;
import com.sun.source.tree.TryTree;
import com.sun.source.tree.TypeCastTree;
import com.sun.source.tree.UnaryTree;
import com.sun.source.tree.VariableTree;
import com.sun.source.tree.WhileLoopTree;
import com.sun.source.util.JavacTask;
import com.sun.source.util.SourcePositions;
import com.sun.source.util.TreePath;
import com.sun.source.util.TreePathScanner;
import com.sun.source.util.Trees;
import java.io.File;
import java.io.IOException;
import java.lang.reflect.Array;
import java.lang.reflect.Field;
import java.lang.reflect.Modifier;
import java.nio.file.Files;
import java.util.ArrayList;
import java.util.HashMap;
import java.util.LinkedHashSet;
import java.util.List;
import java.util.Map;
import java.util.Set;
import javax.lang.model.element.Element;
import javax.lang.model.element.ElementKind;
import javax.lang.model.element.VariableElement;
import javax.lang.model.type.TypeMirror;
import javax.tools.JavaCompiler;
import javax.tools.StandardJavaFileManager;
import javax.tools.ToolProvider;

/**
 * The rules of ../shared/LANGUAGE.md, as far as the source of the class shows them; it is stricter than they are where
 * the class needs less. Rule 7, and that nothing but the document's exceptions is thrown, is for ArgumentsTest.
 */
public final class RulesTest extends TreePathScanner<Void, Void> {
    private static final File SOURCE = new File("src/main/java/BurialGround.java");
    private static final Set<String> TYPES = Set.of("int", "long", "boolean", "double", "int[]", "BurialGround.Ledger",
        "BurialGround.Ledger[]", "BurialGround.EntryReader");
    private static final Set<String> LIBRARY = Set.of("java.lang.Object.Object", "java.lang.System.arraycopy",
        "java.lang.Math.min", "java.lang.Math.max", "java.lang.Long.bitCount");
    private static final Set<String> EXCEPTIONS = Set.of("IllegalStateException", "IllegalArgumentException",
        "IndexOutOfBoundsException");
    private static final int MOST_PARAMETERS = 7;
    private static final int MOST_LINES = 60;
    private static final int MOST_CALLS_DEEP = 8;
    private static final int MOST_CLASSES = 12;
    private static final int MOST_FIELDS = 20;

    private final Trees trees;
    private final CompilationUnitTree unit;
    private final Map<Element, Set<Element>> calls = new HashMap<>();
    private final Set<String> faceNames = new LinkedHashSet<>();
    private final List<MethodTree> privateMethods = new ArrayList<>();
    private int classes = 0;

    private RulesTest(Trees trees, CompilationUnitTree unit) {
        this.trees = trees;
        this.unit = unit;
    }

    private void rule(int number, String what, Tree tree, boolean kept) {
        SourcePositions positions = trees.getSourcePositions();
        long line = unit.getLineMap().getLineNumber(positions.getStartPosition(unit, tree));
        Checks.due("LANGUAGE.md, rule " + number + ", line " + line + ": " + what, kept ? 1 : 0, 1);
    }

    private void never(int number, String what, Tree tree) {
        rule(number, what, tree, false);
    }

    private Element elementOf(Tree tree) {
        return trees.getElement(new TreePath(getCurrentPath(), tree));
    }

    private TypeMirror typeOf(Tree tree) {
        return trees.getTypeMirror(new TreePath(getCurrentPath(), tree));
    }

    private <T extends Tree> T around(Class<T> kind) {
        for (TreePath path = getCurrentPath().getParentPath(); path != null; path = path.getParentPath()) {
            if (kind.isInstance(path.getLeaf())) {
                return kind.cast(path.getLeaf());
            }
        }
        return null;
    }

    private static boolean isConstructor(MethodTree method) {
        return method != null && method.getReturnType() == null;
    }

    // ---- rules 1, 2, 3, 5 and 11: classes and what is declared in them

    @Override
    public Void visitClass(ClassTree tree, Void nothing) {
        classes++;
        Set<javax.lang.model.element.Modifier> has = tree.getModifiers().getFlags();
        boolean isFace = tree.getSimpleName().contentEquals("BurialGround");
        boolean isSeen = has.contains(javax.lang.model.element.Modifier.PUBLIC)
            || has.contains(javax.lang.model.element.Modifier.PROTECTED);
        rule(1, "the face alone is seen, and final", tree, isFace
            ? isSeen && has.contains(javax.lang.model.element.Modifier.FINAL)
            : !isSeen && has.contains(javax.lang.model.element.Modifier.STATIC));
        rule(2, "no class in a method", tree, around(MethodTree.class) == null);
        int fields = 0;
        for (Tree member : tree.getMembers()) {
            rule(5, "no initialiser block", member, !(member instanceof BlockTree));
            fields += member instanceof VariableTree && !isStatic((VariableTree) member) ? 1 : 0;
        }
        rule(11, fields + " fields", tree, fields <= MOST_FIELDS);
        return super.visitClass(tree, nothing);
    }

    private static boolean isStatic(VariableTree tree) {
        return tree.getModifiers().getFlags().contains(javax.lang.model.element.Modifier.STATIC);
    }

    @Override
    public Void visitMethod(MethodTree tree, Void nothing) {
        Set<javax.lang.model.element.Modifier> has = tree.getModifiers().getFlags();
        String name = tree.getName().toString();
        boolean isOfFace = around(ClassTree.class).getSimpleName().contentEquals("BurialGround");
        if (has.contains(javax.lang.model.element.Modifier.PUBLIC)) {
            faceNames.add(name);
        } else {
            privateMethods.add(tree);
            rule(1, name + " is private", tree, !isOfFace || has.contains(javax.lang.model.element.Modifier.PRIVATE));
        }
        rule(6, "not synchronized", tree, !has.contains(javax.lang.model.element.Modifier.SYNCHRONIZED));
        rule(6, "no " + name, tree, !Set.of("equals", "hashCode", "toString").contains(name));
        if (!isConstructor(tree)) {
            String type = typeOf(tree.getReturnType()).toString();
            rule(3, name + " answers " + type, tree, type.equals("void") || TYPES.contains(type));
        }
        rule(11, tree.getParameters().size() + " parameters", tree, tree.getParameters().size() <= MOST_PARAMETERS);
        rule(11, name + " has " + linesOf(tree) + " lines", tree, linesOf(tree) <= MOST_LINES);
        calls.computeIfAbsent(trees.getElement(getCurrentPath()), key -> new LinkedHashSet<>());
        return super.visitMethod(tree, nothing);
    }

    private long linesOf(Tree tree) {
        SourcePositions positions = trees.getSourcePositions();
        return unit.getLineMap().getLineNumber(positions.getEndPosition(unit, tree))
            - unit.getLineMap().getLineNumber(positions.getStartPosition(unit, tree)) + 1;
    }

    @Override
    public Void visitVariable(VariableTree tree, Void nothing) {
        String type = trees.getElement(getCurrentPath()).asType().toString();
        rule(3, tree.getName() + " is " + type, tree, TYPES.contains(type));
        if (isStatic(tree)) {
            VariableElement variable = (VariableElement) trees.getElement(getCurrentPath());
            rule(5, tree.getName() + " is a constant", tree,
                tree.getModifiers().getFlags().contains(javax.lang.model.element.Modifier.FINAL)
                    && (variable.getConstantValue() != null || isWrittenOut(tree.getInitializer())));
        }
        return super.visitVariable(tree, nothing);
    }

    private static boolean isWrittenOut(ExpressionTree initializer) {
        if (!(initializer instanceof NewArrayTree) || ((NewArrayTree) initializer).getInitializers() == null) {
            return false;
        }
        for (ExpressionTree value : ((NewArrayTree) initializer).getInitializers()) {
            if (!(value instanceof LiteralTree)) {
                return false;
            }
        }
        return true;
    }

    // ---- rules 2, 3, 5, 7 and 10: expressions

    @Override
    public Void visitLambdaExpression(LambdaExpressionTree tree, Void nothing) {
        never(2, "no lambda", tree);
        return super.visitLambdaExpression(tree, nothing);
    }

    @Override
    public Void visitMemberReference(MemberReferenceTree tree, Void nothing) {
        never(2, "no method reference", tree);
        return super.visitMemberReference(tree, nothing);
    }

    @Override
    public Void visitTypeCast(TypeCastTree tree, Void nothing) {
        rule(7, "casts of numbers alone", tree, typeOf(tree.getType()).getKind().isPrimitive());
        return super.visitTypeCast(tree, nothing);
    }

    @Override
    public Void visitBinary(BinaryTree tree, Void nothing) {
        rule(10, "texts are not joined by +", tree, !typeOf(tree).toString().equals("java.lang.String"));
        boolean divides = tree.getKind() == Tree.Kind.DIVIDE || tree.getKind() == Tree.Kind.REMAINDER;
        if (divides && !typeOf(tree).toString().equals("double")) {
            rule(7, "divided by a constant that is not 0", tree, isConstantBut0(tree.getRightOperand()));
        }
        return super.visitBinary(tree, nothing);
    }

    private boolean isConstantBut0(ExpressionTree tree) {
        Object value = tree instanceof LiteralTree ? ((LiteralTree) tree).getValue() : null;
        Element element = elementOf(tree);
        if (element instanceof VariableElement) {
            value = ((VariableElement) element).getConstantValue();
        }
        return value instanceof Number && ((Number) value).longValue() != 0;
    }

    @Override
    public Void visitAssignment(AssignmentTree tree, Void nothing) {
        changes(tree, tree.getVariable());
        return super.visitAssignment(tree, nothing);
    }

    @Override
    public Void visitCompoundAssignment(CompoundAssignmentTree tree, Void nothing) {
        changes(tree, tree.getVariable());
        rule(7, "no division in an assignment", tree, tree.getKind() != Tree.Kind.DIVIDE_ASSIGNMENT
            && tree.getKind() != Tree.Kind.REMAINDER_ASSIGNMENT);
        return super.visitCompoundAssignment(tree, nothing);
    }

    @Override
    public Void visitUnary(UnaryTree tree, Void nothing) {
        boolean counts = tree.getKind().toString().contains("CREMENT");
        if (counts) {
            changes(tree, tree.getExpression());
        }
        return super.visitUnary(tree, nothing);
    }

    private void changes(Tree tree, ExpressionTree variable) {
        if (variable instanceof ArrayAccessTree) {
            Element array = elementOf(((ArrayAccessTree) variable).getExpression());
            rule(5, "a constant row is not changed", tree,
                array == null || !array.getModifiers().contains(javax.lang.model.element.Modifier.STATIC));
        }
    }

    // ---- rules 4, 8, 11 and 12: calls, and what is made

    @Override
    public Void visitMethodInvocation(MethodInvocationTree tree, Void nothing) {
        called(tree, elementOf(tree));
        return super.visitMethodInvocation(tree, nothing);
    }

    private void called(Tree tree, Element method) {
        String owner = method.getEnclosingElement().toString();
        if (owner.startsWith("BurialGround")) {
            MethodTree caller = around(MethodTree.class);
            if (caller != null) {
                Element from = trees.getElement(trees.getPath(unit, caller));
                calls.computeIfAbsent(from, key -> new LinkedHashSet<>()).add(method);
            }
            return;
        }
        String name = method.getKind() == ElementKind.CONSTRUCTOR ? "Object" : method.getSimpleName().toString();
        rule(4, owner + "." + name, tree, LIBRARY.contains(owner + "." + name));
    }

    @Override
    public Void visitNewClass(NewClassTree tree, Void nothing) {
        rule(2, "no class without a name", tree, tree.getClassBody() == null);
        if (getCurrentPath().getParentPath().getLeaf() instanceof ThrowTree) {
            return super.visitNewClass(tree, nothing);
        }
        called(tree, elementOf(tree));
        MethodTree method = around(MethodTree.class);
        rule(12, "made by a field or a constructor", tree, method == null || isConstructor(method));
        return super.visitNewClass(tree, nothing);
    }

    @Override
    public Void visitNewArray(NewArrayTree tree, Void nothing) {
        rule(12, "made by a field", tree, around(MethodTree.class) == null);
        rule(3, "of one dimension", tree, tree.getDimensions().size() <= 1);
        return super.visitNewArray(tree, nothing);
    }

    /** Answers how many calls stand open at once, from this method on; refuses recursion. */
    private int depthOf(Element method, Set<Element> open) {
        if (!open.add(method)) {
            Checks.same("LANGUAGE.md, rule 8: recursion", method.toString(), "none");
            return 0;
        }
        int deepest = 0;
        for (Element next : calls.getOrDefault(method, Set.of())) {
            deepest = Math.max(deepest, depthOf(next, open));
        }
        open.remove(method);
        return deepest + 1;
    }

    // ---- rule 6: exceptions

    @Override
    public Void visitThrow(ThrowTree tree, Void nothing) {
        ExpressionTree thrown = tree.getExpression();
        boolean isNew = thrown instanceof NewClassTree
            && EXCEPTIONS.contains(((NewClassTree) thrown).getIdentifier().toString());
        rule(6, "throws a new one of the document's", tree, isNew);
        for (ExpressionTree text : isNew ? ((NewClassTree) thrown).getArguments() : List.<ExpressionTree>of()) {
            rule(6, "with a written text", tree, text instanceof LiteralTree);
        }
        rule(6, "not in a constructor", tree, !isConstructor(around(MethodTree.class)));
        return super.visitThrow(tree, nothing);
    }

    @Override
    public Void visitTry(TryTree tree, Void nothing) {
        never(6, "no try: nothing is caught here", tree);
        return super.visitTry(tree, nothing);
    }

    @Override
    public Void visitSynchronized(SynchronizedTree tree, Void nothing) {
        never(6, "no synchronized", tree);
        return super.visitSynchronized(tree, nothing);
    }

    @Override
    public Void visitAssert(AssertTree tree, Void nothing) {
        never(6, "no assert", tree);
        return super.visitAssert(tree, nothing);
    }

    // ---- rule 9: loops

    @Override
    public Void visitForLoop(ForLoopTree tree, Void nothing) {
        bounded(tree, tree.getCondition());
        return super.visitForLoop(tree, nothing);
    }

    @Override
    public Void visitWhileLoop(WhileLoopTree tree, Void nothing) {
        bounded(tree, tree.getCondition());
        return super.visitWhileLoop(tree, nothing);
    }

    @Override
    public Void visitDoWhileLoop(DoWhileLoopTree tree, Void nothing) {
        bounded(tree, tree.getCondition());
        return super.visitDoWhileLoop(tree, nothing);
    }

    @Override
    public Void visitEnhancedForLoop(EnhancedForLoopTree tree, Void nothing) {
        rule(9, "over an array", tree, typeOf(tree.getExpression()).toString().endsWith("[]"));
        return super.visitEnhancedForLoop(tree, nothing);
    }

    private void bounded(Tree loop, ExpressionTree condition) {
        String text = condition == null ? "" : condition.toString();
        rule(9, "a counter against a bound: " + text, loop, text.contains("<") || text.contains(">="));
    }

    // ---- all of it

    private void check() {
        rule(4, "no import", unit, unit.getImports().isEmpty());
        rule(1, "no package", unit, unit.getPackageName() == null);
        scan(unit, null);
        Checks.due("LANGUAGE.md, rule 11: at most twelve classes, here " + classes, Math.max(classes, MOST_CLASSES),
            MOST_CLASSES);
        for (MethodTree method : privateMethods) {
            boolean hasFaceName = faceNames.contains(method.getName().toString()) && !isConstructor(method);
            rule(1, method.getName() + " is no name of the face", method, !hasFaceName);
        }
        for (Element method : calls.keySet()) {
            int depth = depthOf(method, new LinkedHashSet<>());
            Checks.due("LANGUAGE.md, rule 11: " + method + " goes " + depth + " calls deep",
                Math.max(depth, MOST_CALLS_DEEP), MOST_CALLS_DEEP);
        }
    }

    private static void signs() throws IOException {
        byte[] text = Files.readAllBytes(SOURCE.toPath());
        int strange = 0;
        for (byte sign : text) {
            strange += sign < 1 ? 1 : 0;
        }
        Checks.due("LANGUAGE.md, rule 4: signs outside 1 to 127", strange, 0);
    }

    /** Objects and arrays, and their fields and elements, that can be come to from this one. */
    private static void count(Object from, Set<Integer> seen, int[] found) throws IllegalAccessException {
        if (from == null || !seen.add(System.identityHashCode(from))) {
            return;
        }
        found[0]++;
        if (from.getClass().isArray()) {
            int length = Array.getLength(from);
            found[1] += length;
            for (int i = 0; i < length && !from.getClass().getComponentType().isPrimitive(); i++) {
                count(Array.get(from, i), seen, found);
            }
            return;
        }
        for (Field field : from.getClass().getDeclaredFields()) {
            if (!Modifier.isStatic(field.getModifiers())) {
                found[1]++;
                field.setAccessible(true);
                if (!field.getType().isPrimitive()) {
                    count(field.get(from), seen, found);
                }
            }
        }
    }

    private static int[] keptBy(BurialGround ground) throws IllegalAccessException {
        int[] found = new int[2];
        count(ground, new LinkedHashSet<>(), found);
        return found;
    }

    /** Rule 12 counts what is kept: the room is for some 600,000 objects and 7.3 million fields and elements. */
    private static void keepsNoMore() throws IllegalAccessException {
        BurialGround ground = new BurialGround();
        int[] first = keptBy(ground);
        for (int call = 1; call <= 500; call++) {
            ground.reserve(call % 10, 1 + call % 30, 1);
        }
        int[] then = keptBy(ground);
        Checks.due("LANGUAGE.md, rule 12: objects and arrays after 500 calls", then[0], first[0]);
        Checks.due("LANGUAGE.md, rule 12: fields and elements after 500 calls", then[1], first[1]);
        Checks.due("LANGUAGE.md, rule 12: at most 100 objects, here " + first[0], Math.max(first[0], 100), 100);
        Checks.due("LANGUAGE.md, rule 12: at most 5000 elements, here " + first[1], Math.max(first[1], 5000), 5000);
    }

    public static void main(String[] args) throws IOException, IllegalAccessException {
        JavaCompiler compiler = ToolProvider.getSystemJavaCompiler();
        StandardJavaFileManager files = compiler.getStandardFileManager(null, null, null);
        JavacTask task = (JavacTask) compiler.getTask(null, files, null, List.of("--release", "17", "-proc:none"), null,
            files.getJavaFileObjects(SOURCE));
        CompilationUnitTree unit = task.parse().iterator().next();
        task.analyze();
        new RulesTest(Trees.instance(task), unit).check();
        files.close();
        signs();
        keepsNoMore();
        Checks.end();
    }
}
