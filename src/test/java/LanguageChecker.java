import com.sun.source.tree.ArrayAccessTree;
import com.sun.source.tree.AssertTree;
import com.sun.source.tree.BinaryTree;
import com.sun.source.tree.BlockTree;
import com.sun.source.tree.ClassTree;
import com.sun.source.tree.CompilationUnitTree;
import com.sun.source.tree.CompoundAssignmentTree;
import com.sun.source.tree.DoWhileLoopTree;
import com.sun.source.tree.EnhancedForLoopTree;
import com.sun.source.tree.ExpressionTree;
import com.sun.source.tree.ForLoopTree;
import com.sun.source.tree.InstanceOfTree;
import com.sun.source.tree.LambdaExpressionTree;
import com.sun.source.tree.LiteralTree;
import com.sun.source.tree.MemberReferenceTree;
import com.sun.source.tree.MemberSelectTree;
import com.sun.source.tree.MethodInvocationTree;
import com.sun.source.tree.MethodTree;
import com.sun.source.tree.NewArrayTree;
import com.sun.source.tree.NewClassTree;
import com.sun.source.tree.SynchronizedTree;
import com.sun.source.tree.ThrowTree;
import com.sun.source.tree.Tree;
import com.sun.source.tree.TryTree;
import com.sun.source.tree.TypeCastTree;
import com.sun.source.tree.VariableTree;
import com.sun.source.tree.WhileLoopTree;
import com.sun.source.util.JavacTask;
import com.sun.source.util.TreePath;
import com.sun.source.util.TreePathScanner;
import com.sun.source.util.Trees;
import java.io.IOException;
import java.net.URI;
import java.util.ArrayList;
import java.util.HashMap;
import java.util.LinkedHashMap;
import java.util.LinkedHashSet;
import java.util.List;
import java.util.Map;
import java.util.Set;
import java.util.regex.Pattern;
import javax.lang.model.element.Element;
import javax.lang.model.element.ElementKind;
import javax.lang.model.element.ExecutableElement;
import javax.lang.model.element.Modifier;
import javax.lang.model.element.VariableElement;
import javax.lang.model.type.ArrayType;
import javax.lang.model.type.TypeKind;
import javax.lang.model.type.TypeMirror;
import javax.tools.JavaFileObject;
import javax.tools.SimpleJavaFileObject;
import javax.tools.ToolProvider;

/**
 * Looks at a source as the compiler sees it, and tells where it leaves the rules of LANGUAGE.md. It is
 * stricter than they are: what they allow and the class does not use (lists, enums, while ..) is a fault, too.
 */
final class LanguageChecker extends TreePathScanner<Void, Void> {
    private static final int MOST_CLASSES = 12;
    private static final int MOST_FIELDS = 20;
    private static final int MOST_PARAMETERS = 7;
    private static final int MOST_LINES = 60;
    private static final int MOST_DEPTH = 8;
    private static final Set<String> TYPES = Set.of("int", "long", "boolean", "char", "void", "java.lang.String",
        "java.lang.StringBuilder");
    private static final Set<String> LIBRARY = Set.of("String.length()", "String.charAt(int)", "String.isEmpty()",
        "String.substring(int,int)", "StringBuilder.append(char)", "StringBuilder.append(int)",
        "StringBuilder.append(java.lang.String)", "StringBuilder.reverse()", "StringBuilder.length()",
        "StringBuilder.toString()", "Math.min(int,int)", "Math.max(int,int)", "Math.abs(int)");
    private static final Set<String> EXCEPTIONS = Set.of("java.lang.IllegalStateException",
        "java.lang.IllegalArgumentException", "java.lang.IndexOutOfBoundsException");

    private final List<String> faults = new ArrayList<>();
    private final Map<Element, Set<Element>> calls = new HashMap<>();
    private final Set<Element> ownMethods = new LinkedHashSet<>();
    // Methods that may answer null, and the calls of methods after which nobody looks whether it did.
    private final Set<Element> nullable = new LinkedHashSet<>();
    private final Map<Tree, Element> trusted = new LinkedHashMap<>();
    private final Trees trees;
    private final CompilationUnitTree unit;
    private MethodTree method;
    private int texts;
    private int classes;

    private LanguageChecker(Trees trees, CompilationUnitTree unit) {
        this.trees = trees;
        this.unit = unit;
    }

    /** The faults of a source, a line each, with the rule and the place. */
    static List<String> faultsOf(String name, String source) {
        SimpleJavaFileObject file = new SimpleJavaFileObject(URI.create("string:///" + name + ".java"),
                JavaFileObject.Kind.SOURCE) {
            @Override
            public CharSequence getCharContent(boolean isLenient) {
                return source;
            }
        };
        JavacTask task = (JavacTask) ToolProvider.getSystemJavaCompiler().getTask(null, null, null,
            List.of("--release", "17", "-proc:none"), null, List.of(file));
        try {
            CompilationUnitTree unit = task.parse().iterator().next();
            task.analyze();
            LanguageChecker checker = new LanguageChecker(Trees.instance(task), unit);
            checker.scan(unit, null);
            checker.testWhole(source);
            return checker.faults;
        } catch (IOException e) {
            return List.of(e.toString());
        }
    }

    private void fault(int rule, Tree where, String what) {
        long line = unit.getLineMap().getLineNumber(trees.getSourcePositions().getStartPosition(unit, where));
        faults.add("rule " + rule + ", line " + line + ": " + what);
    }

    private void testWhole(String source) {
        if (unit.getPackage() != null || !unit.getImports().isEmpty()) {
            fault(1, unit, "a package or an import");
        }
        if (source.chars().anyMatch(sign -> sign > 127)) {
            fault(4, unit, "a sign beyond 127");
        }
        if (classes > MOST_CLASSES) {
            fault(11, unit, classes + " classes");
        }
        for (Map.Entry<Tree, Element> one : trusted.entrySet()) {
            if (nullable.contains(one.getValue())) {
                fault(7, one.getKey(), "an answer that may be null: " + one.getKey());
            }
        }
        for (Element one : ownMethods) {
            if (depthOf(one, 0) > MOST_DEPTH) {
                fault(11, trees.getTree(one), "calls deeper than 8, or a recursion, from " + one);
            }
        }
    }

    private int depthOf(Element one, int above) {
        int deepest = 0;
        if (above <= MOST_DEPTH) {
            for (Element called : calls.getOrDefault(one, Set.of())) {
                deepest = Math.max(deepest, ownMethods.contains(called) ? depthOf(called, above + 1) : 0);
            }
        }
        return deepest + 1;
    }

    private Element elementOf(Tree tree) {
        return trees.getElement(new TreePath(getCurrentPath(), tree));
    }

    private TypeMirror typeOf(Tree tree) {
        return trees.getTypeMirror(new TreePath(getCurrentPath(), tree));
    }

    private boolean isText(Tree tree) {
        TypeMirror type = typeOf(tree);
        return type != null && type.toString().equals("java.lang.String");
    }

    private String textOfMethod() {
        return method == null ? "" : method.toString();
    }

    /** Whether null is looked for where what the tree stands for is used. */
    private boolean isLookedAt(ExpressionTree tree) {
        TreePath above = getCurrentPath().getParentPath();
        Tree user = above.getLeaf();
        if (user instanceof VariableTree) {
            return looksForNull(above.getParentPath().getLeaf(), ((VariableTree) user).getName());
        }
        if (user instanceof MethodInvocationTree) {
            int argument = ((MethodInvocationTree) user).getArguments().indexOf(tree);
            MethodTree called = (MethodTree) trees.getTree(trees.getElement(above));
            return argument < 0 || called != null && looksForNull(called, called.getParameters().get(argument).getName());
        }
        return !(user instanceof MemberSelectTree) || looksForNull(method, tree);
    }

    private static boolean looksForNull(Tree where, Object name) {
        String text = String.valueOf(where);
        return text.contains(name + " == null") || text.contains(name + " != null");
    }

    // ---- rules 1 to 3: classes and types

    @Override
    public Void visitClass(ClassTree tree, Void none) {
        classes++;
        boolean isOuter = getCurrentPath().getParentPath().getLeaf() instanceof CompilationUnitTree;
        Set<Modifier> modifiers = tree.getModifiers().getFlags();
        if (!isOuter && (!modifiers.contains(Modifier.STATIC) || modifiers.contains(Modifier.PUBLIC)
                || modifiers.contains(Modifier.PROTECTED))) {
            fault(2, tree, "a class inside that is not static, or open");
        }
        int fields = 0;
        for (Tree member : tree.getMembers()) {
            if (member instanceof BlockTree) {
                fault(5, member, "an initialiser block");
            }
            if (member instanceof VariableTree) {
                Set<Modifier> flags = ((VariableTree) member).getModifiers().getFlags();
                fields += flags.contains(Modifier.STATIC) ? 0 : 1;
                if (isOuter && !flags.contains(Modifier.PRIVATE)) {
                    fault(1, member, "an open field");
                }
            }
        }
        if (fields > MOST_FIELDS) {
            fault(11, tree, fields + " fields");
        }
        return super.visitClass(tree, none);
    }

    @Override
    public Void visitVariable(VariableTree tree, Void none) {
        Element element = trees.getElement(getCurrentPath());
        testType(tree, element.asType());
        Set<Modifier> flags = element.getModifiers();
        if (flags.contains(Modifier.STATIC) && (!flags.contains(Modifier.FINAL)
                || ((VariableElement) element).getConstantValue() == null)) {
            fault(5, tree, "a static field that is no constant");
        }
        if (flags.contains(Modifier.VOLATILE) || flags.contains(Modifier.TRANSIENT)) {
            fault(6, tree, "a volatile or transient field");
        }
        return super.visitVariable(tree, none);
    }

    private void testType(Tree where, TypeMirror type) {
        TypeMirror part = type.getKind() == TypeKind.ARRAY ? ((ArrayType) type).getComponentType() : type;
        boolean isOwn = part.getKind() == TypeKind.DECLARED && !part.toString().contains("java.");
        if (!isOwn && !TYPES.contains(part.toString())) {
            fault(3, where, "the type " + type);
        }
    }

    // ---- rules 4 to 6: the library and exceptions

    @Override
    public Void visitMethod(MethodTree tree, Void none) {
        MethodTree outer = method;
        int outerTexts = texts;
        method = tree;
        texts = 0;
        ExecutableElement element = (ExecutableElement) trees.getElement(getCurrentPath());
        ownMethods.add(element);
        if (element.getKind() == ElementKind.METHOD) {
            testType(tree, element.getReturnType());
        }
        if (Pattern.compile("return ([^;]*[?:] )?null\\b").matcher(tree.toString()).find()) {
            nullable.add(element);
        }
        if (tree.getParameters().size() > MOST_PARAMETERS) {
            fault(11, tree, "more than seven parameters");
        }
        long from = trees.getSourcePositions().getStartPosition(unit, tree);
        long to = trees.getSourcePositions().getEndPosition(unit, tree);
        if (to > from && unit.getLineMap().getLineNumber(to) - unit.getLineMap().getLineNumber(from) >= MOST_LINES) {
            fault(11, tree, "a method that is too long");
        }
        if (Set.of("equals", "hashCode", "toString").contains(element.getSimpleName().toString())) {
            fault(6, tree, "equals, hashCode or toString of its own");
        }
        Set<Modifier> flags = element.getModifiers();
        if (flags.contains(Modifier.SYNCHRONIZED) || flags.contains(Modifier.NATIVE)) {
            fault(6, tree, "synchronized or native");
        }
        super.visitMethod(tree, none);
        if (texts > 1) {
            fault(12, tree, "more than one StringBuilder");
        }
        method = outer;
        texts = outerTexts;
        return null;
    }

    @Override
    public Void visitMethodInvocation(MethodInvocationTree tree, Void none) {
        Element called = trees.getElement(getCurrentPath());
        Element owner = called.getEnclosingElement();
        if (owner.toString().startsWith("java.")) {
            String name = owner.getSimpleName() + "." + called;
            if (!LIBRARY.contains(name) && called.getKind() != ElementKind.CONSTRUCTOR) {
                fault(4, tree, "the library's " + name);
            }
        }
        note(called);
        if (!isLookedAt(tree)) {
            trusted.put(tree, called);
        }
        return super.visitMethodInvocation(tree, none);
    }

    private void note(Element called) {
        if (method != null) {
            Element caller = trees.getElement(pathOf(method));
            calls.computeIfAbsent(caller, each -> new LinkedHashSet<>()).add(called);
        }
    }

    private TreePath pathOf(Tree tree) {
        TreePath path = getCurrentPath();
        while (path.getLeaf() != tree) {
            path = path.getParentPath();
        }
        return path;
    }

    @Override
    public Void visitNewClass(NewClassTree tree, Void none) {
        Element made = trees.getElement(getCurrentPath());
        String type = typeOf(tree.getIdentifier()).toString();
        if (tree.getClassBody() != null) {
            fault(2, tree, "a class without a name");
        }
        if (type.equals("java.lang.StringBuilder")) {
            texts++;
            if (isInLoop()) {
                fault(12, tree, "a StringBuilder in a loop");
            }
        } else if (type.startsWith("java.") && !EXCEPTIONS.contains(type)) {
            fault(4, tree, "the library's " + type);
        }
        note(made);
        return super.visitNewClass(tree, none);
    }

    private boolean isInLoop() {
        for (Tree above : getCurrentPath()) {
            if (above instanceof ForLoopTree || above instanceof EnhancedForLoopTree) {
                return true;
            }
            if (above instanceof MethodTree) {
                return false;
            }
        }
        return false;
    }

    @Override
    public Void visitNewArray(NewArrayTree tree, Void none) {
        boolean isSized = tree.getDimensions().size() == 1;
        Tree length = isSized ? tree.getDimensions().get(0) : null;
        if (!isSized) {
            fault(3, tree, "an array that is not of one dimension");
        } else if (constantOf(length) < 0 && !length.toString().contains("< 0 ? 0 : ")) {
            fault(7, tree, "a length that may be below 0");
        }
        if (method != null && !method.getName().contentEquals("<init>")) {
            fault(12, tree, "an array made by a method");
        }
        return super.visitNewArray(tree, none);
    }

    @Override
    public Void visitThrow(ThrowTree tree, Void none) {
        ExpressionTree thrown = tree.getExpression();
        boolean isPlain = thrown instanceof NewClassTree && EXCEPTIONS.contains(typeOf(thrown).toString());
        if (isPlain) {
            for (ExpressionTree argument : ((NewClassTree) thrown).getArguments()) {
                isPlain &= argument instanceof LiteralTree;
            }
        }
        if (!isPlain) {
            fault(6, tree, "what is thrown is not new E(\"a written text\")");
        }
        if (method == null || method.getName().contentEquals("<init>")) {
            fault(6, tree, "a throw in a constructor");
        }
        return super.visitThrow(tree, none);
    }

    @Override
    public Void visitTry(TryTree tree, Void none) {
        fault(6, tree, "try");
        return super.visitTry(tree, none);
    }

    @Override
    public Void visitSynchronized(SynchronizedTree tree, Void none) {
        fault(6, tree, "synchronized");
        return super.visitSynchronized(tree, none);
    }

    @Override
    public Void visitAssert(AssertTree tree, Void none) {
        fault(6, tree, "assert");
        return super.visitAssert(tree, none);
    }

    @Override
    public Void visitLambdaExpression(LambdaExpressionTree tree, Void none) {
        fault(2, tree, "a lambda");
        return super.visitLambdaExpression(tree, none);
    }

    @Override
    public Void visitMemberReference(MemberReferenceTree tree, Void none) {
        fault(2, tree, "a method reference");
        return super.visitMemberReference(tree, none);
    }

    @Override
    public Void visitInstanceOf(InstanceOfTree tree, Void none) {
        fault(6, tree, "instanceof");
        return super.visitInstanceOf(tree, none);
    }

    // ---- rules 7 to 10: what the machine could throw, loops and texts

    @Override
    public Void visitTypeCast(TypeCastTree tree, Void none) {
        if (!typeOf(tree.getType()).getKind().isPrimitive()) {
            fault(7, tree, "a cast of a reference");
        }
        return super.visitTypeCast(tree, none);
    }

    /** An index is a name that its method compares with the length of that very array. */
    @Override
    public Void visitArrayAccess(ArrayAccessTree tree, Void none) {
        String index = tree.getIndex().toString();
        String length = tree.getExpression() + ".length";
        String text = textOfMethod();
        boolean isBelow = text.contains(index + " < " + length) || text.contains(index + " >= " + length);
        boolean isAbove = text.contains(index + " >= 0") || text.contains(index + " < 0")
            || text.contains("int " + index + " = 0; ");
        if (!isBelow || !isAbove) {
            fault(7, tree, "an index that is not looked at: " + tree);
        }
        if (!trees.getTypeMirror(getCurrentPath()).getKind().isPrimitive() && !isLookedAt(tree)) {
            fault(7, tree, "a place in a row that may be null: " + tree);
        }
        return super.visitArrayAccess(tree, none);
    }

    /** What comes from an array of objects may be null. */
    @Override
    public Void visitEnhancedForLoop(EnhancedForLoopTree tree, Void none) {
        String name = tree.getVariable().getName().toString();
        if (!typeOf(tree.getVariable()).getKind().isPrimitive() && !tree.getStatement().toString().contains(name + " != null")) {
            fault(7, tree, "a reference that is not looked at: " + name);
        }
        if (typeOf(tree.getExpression()).getKind() != TypeKind.ARRAY) {
            fault(10, tree, "for over what is no array");
        }
        return super.visitEnhancedForLoop(tree, none);
    }

    @Override
    public Void visitBinary(BinaryTree tree, Void none) {
        Tree.Kind kind = tree.getKind();
        if (kind == Tree.Kind.PLUS && (isText(tree.getLeftOperand()) || isText(tree.getRightOperand()))) {
            fault(10, tree, "texts joined by +");
        }
        if ((kind == Tree.Kind.EQUAL_TO || kind == Tree.Kind.NOT_EQUAL_TO)
                && isText(tree.getLeftOperand()) && isText(tree.getRightOperand())) {
            fault(6, tree, "== between texts");
        }
        if (kind == Tree.Kind.DIVIDE || kind == Tree.Kind.REMAINDER) {
            testDivisor(tree.getRightOperand());
        }
        return super.visitBinary(tree, none);
    }

    @Override
    public Void visitCompoundAssignment(CompoundAssignmentTree tree, Void none) {
        if (isText(tree.getVariable())) {
            fault(10, tree, "texts joined by +=");
        }
        if (tree.getKind() == Tree.Kind.DIVIDE_ASSIGNMENT || tree.getKind() == Tree.Kind.REMAINDER_ASSIGNMENT) {
            testDivisor(tree.getExpression());
        }
        return super.visitCompoundAssignment(tree, none);
    }

    private void testDivisor(ExpressionTree divisor) {
        if (constantOf(divisor) <= 0 && !textOfMethod().contains(divisor + " > 0 ")) {
            fault(7, divisor, "a divisor that is not looked at: " + divisor);
        }
    }

    /** What a written number or a constant is; -1 of all else. */
    private long constantOf(Tree tree) {
        Object value = null;
        if (tree instanceof LiteralTree) {
            value = ((LiteralTree) tree).getValue();
        } else if (elementOf(tree) instanceof VariableElement) {
            value = ((VariableElement) elementOf(tree)).getConstantValue();
        } else if (tree instanceof BinaryTree && tree.getKind() == Tree.Kind.PLUS) {
            long left = constantOf(((BinaryTree) tree).getLeftOperand());
            long right = constantOf(((BinaryTree) tree).getRightOperand());
            return left < 0 || right < 0 ? -1 : left + right;
        }
        return value instanceof Number ? ((Number) value).longValue() : -1;
    }

    /** A counter goes by one towards a bound that the loop's own head names. */
    @Override
    public Void visitForLoop(ForLoopTree tree, Void none) {
        String counter = tree.getInitializer().size() == 1 && tree.getInitializer().get(0) instanceof VariableTree
            ? ((VariableTree) tree.getInitializer().get(0)).getName().toString() : "?";
        String bound = String.valueOf(tree.getCondition());
        String step = tree.getUpdate().size() == 1 ? tree.getUpdate().get(0).toString() : "";
        boolean isUp = step.startsWith(counter + "++") && bound.matches(".*\\b" + counter + " <=? .*");
        boolean isDown = step.startsWith(counter + "--") && bound.matches(".*\\b" + counter + " >=? .*");
        boolean isTouched = Pattern.compile("\\b" + counter + "(\\+\\+|--| [-+*/%|&^]?= )").matcher(
            tree.getStatement().toString()).find();
        if (!isUp && !isDown || isTouched || bound.contains("||")) {
            fault(9, tree, "a loop whose end is not seen");
        }
        return super.visitForLoop(tree, none);
    }

    @Override
    public Void visitWhileLoop(WhileLoopTree tree, Void none) {
        fault(9, tree, "while");
        return super.visitWhileLoop(tree, none);
    }

    @Override
    public Void visitDoWhileLoop(DoWhileLoopTree tree, Void none) {
        fault(9, tree, "do");
        return super.visitDoWhileLoop(tree, none);
    }
}
