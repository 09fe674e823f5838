import com.sun.source.tree.AssignmentTree;
import com.sun.source.tree.BinaryTree;
import com.sun.source.tree.BlockTree;
import com.sun.source.tree.ClassTree;
import com.sun.source.tree.CompilationUnitTree;
import com.sun.source.tree.ExpressionTree;
import com.sun.source.tree.ForLoopTree;
import com.sun.source.tree.IdentifierTree;
import com.sun.source.tree.MethodInvocationTree;
import com.sun.source.tree.MethodTree;
import com.sun.source.tree.NewArrayTree;
import com.sun.source.tree.NewClassTree;
import com.sun.source.tree.Tree;
import com.sun.source.tree.TypeCastTree;
import com.sun.source.tree.UnaryTree;
import com.sun.source.tree.VariableTree;
import com.sun.source.util.JavacTask;
import com.sun.source.util.TreePathScanner;
import com.sun.source.util.Trees;
import java.io.IOException;
import java.nio.file.Path;
import java.util.ArrayList;
import java.util.HashMap;
import java.util.HashSet;
import java.util.List;
import java.util.Map;
import java.util.Set;
import javax.lang.model.element.Element;
import javax.lang.model.element.ElementKind;
import javax.lang.model.element.Modifier;
import javax.lang.model.type.TypeMirror;
import javax.tools.JavaCompiler;
import javax.tools.StandardJavaFileManager;
import javax.tools.ToolProvider;

/** The rules of LANGUAGE.md that the source tells, looked for in the tree that the compiler reads of it. */
final class SourceRules extends TreePathScanner<Void, Void> {
    private static final Set<String> NO_KINDS = Set.of("THROW", "TRY", "CATCH", "SYNCHRONIZED", "ASSERT", "LAMBDA_EXPRESSION",
        "MEMBER_REFERENCE", "SWITCH_EXPRESSION", "YIELD", "INSTANCE_OF", "IMPORT", "PACKAGE", "ANNOTATION", "RECORD");
    private static final Set<String> PLAIN_TYPES = Set.of("int", "long", "short", "byte", "char", "boolean", "void", "java.lang.String");
    // only what the class has a use for, of all that rule 4 lists
    private static final Set<String> LIBRARY = Set.of("java.lang.String.length()", "java.lang.String.charAt(int)",
        "java.lang.System.arraycopy(java.lang.Object,int,java.lang.Object,int,int)", "java.lang.Integer.bitCount(int)",
        "java.lang.Math.max(int,int)");
    private static final int MOST_LINES = 60, MOST_PARAMETERS = 7, MOST_DEEP = 8, MOST_CLASSES = 12, MOST_FIELDS = 20;

    private final Trees trees;
    private final CompilationUnitTree unit;
    private final Map<Element, Set<Element>> calls = new HashMap<>();
    private int classes;

    private SourceRules(Trees trees, CompilationUnitTree unit) {
        this.trees = trees;
        this.unit = unit;
    }

    static void look(Path source) throws IOException {
        JavaCompiler compiler = ToolProvider.getSystemJavaCompiler();
        try (StandardJavaFileManager files = compiler.getStandardFileManager(null, null, null)) {
            List<String> options = List.of("-proc:none");
            JavacTask task = (JavacTask) compiler.getTask(null, files, null, options, null, files.getJavaFileObjects(source));
            CompilationUnitTree unit = task.parse().iterator().next();
            task.analyze();
            SourceRules rules = new SourceRules(Trees.instance(task), unit);
            rules.scan(unit, null);
            rules.deep();
        }
    }

    private void broken(int rule, Tree at, String why) {
        long place = trees.getSourcePositions().getStartPosition(unit, at);
        Check.due("rule " + rule + ", line " + unit.getLineMap().getLineNumber(place) + ": " + why, 1, 0);
    }

    private void keeps(boolean isKept, int rule, Tree at, String why) {
        if (isKept) Check.due("rule " + rule, 0, 0);
        else broken(rule, at, why);
    }

    private TypeMirror typeOf(Tree tree) {
        return trees.getTypeMirror(trees.getPath(unit, tree));
    }

    private Element elementOf(Tree tree) {
        return trees.getElement(trees.getPath(unit, tree));
    }

    private static boolean isOwn(String type) {
        return type.equals("ValueNumberer") || type.startsWith("ValueNumberer.");
    }

    @Override
    public Void scan(Tree tree, Void none) {
        if (tree != null) {
            keeps(!NO_KINDS.contains(tree.getKind().name()), 6, tree, "no " + tree.getKind());
            // narrower than the rule, which allows other loops with a plain end, too: the class needs none
            keeps(!tree.getKind().name().matches("WHILE_LOOP|DO_WHILE_LOOP|ENHANCED_FOR_LOOP"), 9, tree, "only loops that count");
        }
        return super.scan(tree, none);
    }

    @Override
    public Void visitClass(ClassTree tree, Void none) {
        Element own = trees.getElement(getCurrentPath());
        classes++;
        keeps(classes <= MOST_CLASSES, 11, tree, "too many classes");
        boolean isOutside = tree.getSimpleName().contentEquals("ValueNumberer");
        keeps(isOutside || own.getModifiers().contains(Modifier.STATIC), 2, tree, "a class inside is static");
        keeps(own.getEnclosingElement().getKind() != ElementKind.METHOD, 2, tree, "no local class");
        int fields = 0;
        for (Tree member : tree.getMembers()) {
            keeps(!(member instanceof BlockTree), 5, member, "no initialiser block");
            if (member instanceof VariableTree field) fields += fieldCounts(field);
        }
        keeps(fields <= MOST_FIELDS, 11, tree, "too many fields: " + fields);
        return super.visitClass(tree, none);
    }

    private int fieldCounts(VariableTree field) {
        Set<Modifier> flags = field.getModifiers().getFlags();
        if (!flags.contains(Modifier.STATIC)) return 1;
        boolean isConstant = flags.contains(Modifier.FINAL) && PLAIN_TYPES.contains(typeOf(field).toString());
        keeps(isConstant && field.getInitializer() != null, 5, field, "static fields are constants");
        return 0;
    }

    @Override
    public Void visitMethod(MethodTree tree, Void none) {
        long start = trees.getSourcePositions().getStartPosition(unit, tree);
        long stop = trees.getSourcePositions().getEndPosition(unit, tree);
        long lines = unit.getLineMap().getLineNumber(Math.max(start, stop)) - unit.getLineMap().getLineNumber(start) + 1;
        keeps(lines <= MOST_LINES, 11, tree, "a method of " + lines + " lines");
        keeps(tree.getParameters().size() <= MOST_PARAMETERS, 11, tree, "too many parameters");
        keeps(tree.getThrows().isEmpty(), 6, tree, "no throws");
        if (tree.getReturnType() != null) keepsType(tree.getReturnType());
        calls.putIfAbsent(elementOf(tree), new HashSet<>());
        return super.visitMethod(tree, none);
    }

    @Override
    public Void visitVariable(VariableTree tree, Void none) {
        keepsType(tree);
        return super.visitVariable(tree, none);
    }

    private void keepsType(Tree tree) {
        String type = String.valueOf(typeOf(tree));
        String element = type.replace("[]", "");
        int dimensions = (type.length() - element.length()) / 2;
        boolean isKnown = PLAIN_TYPES.contains(element) || isOwn(element);
        boolean isNumber = !isOwn(element) && !element.contains(".");
        keeps(isKnown && (dimensions < 2 || dimensions == 2 && isNumber), 3, tree, "the type " + type);
    }

    @Override
    public Void visitMethodInvocation(MethodInvocationTree tree, Void none) {
        Element called = elementOf(tree);
        String owner = called.getEnclosingElement().toString();
        boolean isSuper = called.getKind() == ElementKind.CONSTRUCTOR;
        keeps(isOwn(owner) || isSuper || LIBRARY.contains(owner + "." + called), 4, tree, "calls " + owner + "." + called);
        if (isOwn(owner)) noteCall(called);
        return super.visitMethodInvocation(tree, none);
    }

    @Override
    public Void visitNewClass(NewClassTree tree, Void none) {
        keeps(tree.getClassBody() == null, 2, tree, "no anonymous class");
        keeps(isOwn(typeOf(tree).toString()), 3, tree, "a new " + typeOf(tree));
        keepsMaking(tree);
        noteCall(elementOf(tree));
        return super.visitNewClass(tree, none);
    }

    @Override
    public Void visitNewArray(NewArrayTree tree, Void none) {
        keepsMaking(tree);
        return super.visitNewArray(tree, none);
    }

    /** What is made is made with the object, so that no run of calls fills the room. */
    private void keepsMaking(Tree tree) {
        MethodTree around = methodAround();
        keeps(around == null || around.getReturnType() == null, 12, tree, "made by a method");
    }

    private MethodTree methodAround() {
        for (Tree tree : getCurrentPath()) {
            if (tree instanceof MethodTree method) return method;
            if (tree instanceof ClassTree) return null;
        }
        return null;
    }

    private void noteCall(Element called) {
        MethodTree around = methodAround();
        if (around != null) calls.computeIfAbsent(elementOf(around), e -> new HashSet<>()).add(called);
    }

    @Override
    public Void visitTypeCast(TypeCastTree tree, Void none) {
        keeps(typeOf(tree).getKind().isPrimitive(), 6, tree, "only casts of numbers");
        return super.visitTypeCast(tree, none);
    }

    @Override
    public Void visitBinary(BinaryTree tree, Void none) {
        boolean isNumeric = typeOf(tree.getLeftOperand()).getKind().isPrimitive() && typeOf(tree.getRightOperand()).getKind().isPrimitive();
        keeps(isNumeric, 10, tree, "numbers alone are joined and compared");
        return super.visitBinary(tree, none);
    }

    /** Each loop counts one of its own up by one, against a bound, and nothing in it puts it back. */
    @Override
    public Void visitForLoop(ForLoopTree tree, Void none) {
        String counter = "";
        if (tree.getUpdate().size() == 1) counter = tree.getUpdate().get(0).getExpression().toString().replaceAll("\\+\\+$", "");
        boolean counts = tree.getUpdate().size() == 1 && tree.getUpdate().get(0).getExpression().getKind() == Tree.Kind.POSTFIX_INCREMENT;
        keeps(counts, 9, tree, "the loop counts up");
        keeps(isBound(tree.getCondition(), counter), 9, tree, "the loop has a bound");
        keeps(!puts(tree.getStatement(), counter), 9, tree, "the loop's counter is put");
        return super.visitForLoop(tree, none);
    }

    private static boolean isBound(ExpressionTree condition, String counter) {
        if (!(condition instanceof BinaryTree both)) return false;
        if (both.getKind() == Tree.Kind.CONDITIONAL_AND) {
            return isBound(both.getLeftOperand(), counter) || isBound(both.getRightOperand(), counter);
        }
        boolean isBelow = both.getKind() == Tree.Kind.LESS_THAN || both.getKind() == Tree.Kind.LESS_THAN_EQUAL;
        return isBelow && both.getLeftOperand().toString().equals(counter);
    }

    private boolean puts(Tree body, String counter) {
        List<Tree> found = new ArrayList<>();
        new TreePathScanner<Void, Void>() {
            @Override
            public Void visitAssignment(AssignmentTree tree, Void none) {
                if (isCounter(tree.getVariable())) found.add(tree);
                return super.visitAssignment(tree, none);
            }

            @Override
            public Void visitCompoundAssignment(com.sun.source.tree.CompoundAssignmentTree tree, Void none) {
                if (isCounter(tree.getVariable())) found.add(tree);
                return super.visitCompoundAssignment(tree, none);
            }

            @Override
            public Void visitUnary(UnaryTree tree, Void none) {
                boolean changes = tree.getKind().name().matches(".*(INCREMENT|DECREMENT)");
                if (changes && isCounter(tree.getExpression())) found.add(tree);
                return super.visitUnary(tree, none);
            }

            private boolean isCounter(Tree tree) {
                return tree instanceof IdentifierTree name && name.getName().contentEquals(counter);
            }
        }.scan(trees.getPath(unit, body), null);
        return !found.isEmpty();
    }

    private void deep() {
        int deepest = 0;
        for (Element method : calls.keySet()) deepest = Math.max(deepest, depth(method, new ArrayList<>()));
        System.out.println("calls go " + deepest + " deep");
        Check.due("rule 11: calls go " + deepest + " deep", deepest <= MOST_DEEP ? 1 : 0, 1);
    }

    private int depth(Element method, List<Element> open) {
        Check.due("rule 8: recursion by " + method, open.contains(method) ? 1 : 0, 0);
        if (open.contains(method)) return 0;
        open.add(method);
        int below = 0;
        for (Element called : calls.getOrDefault(method, Set.of())) below = Math.max(below, depth(called, open));
        open.remove(method);
        return below + 1;
    }
}
