import com.sun.source.tree.BinaryTree;
import com.sun.source.tree.BlockTree;
import com.sun.source.tree.ClassTree;
import com.sun.source.tree.CompilationUnitTree;
import com.sun.source.tree.CompoundAssignmentTree;
import com.sun.source.tree.ExpressionTree;
import com.sun.source.tree.ForLoopTree;
import com.sun.source.tree.ImportTree;
import com.sun.source.tree.LiteralTree;
import com.sun.source.tree.MethodInvocationTree;
import com.sun.source.tree.MethodTree;
import com.sun.source.tree.NewClassTree;
import com.sun.source.tree.ThrowTree;
import com.sun.source.tree.Tree;
import com.sun.source.tree.TypeCastTree;
import com.sun.source.tree.VariableTree;
import com.sun.source.util.JavacTask;
import com.sun.source.util.TreePath;
import com.sun.source.util.TreePathScanner;
import com.sun.source.util.Trees;
import java.io.IOException;
import java.util.ArrayList;
import java.util.HashMap;
import java.util.LinkedHashMap;
import java.util.LinkedHashSet;
import java.util.List;
import java.util.Map;
import java.util.Set;
import javax.lang.model.element.Element;
import javax.lang.model.element.ElementKind;
import javax.lang.model.element.Modifier;
import javax.lang.model.element.VariableElement;
import javax.lang.model.type.ArrayType;
import javax.lang.model.type.DeclaredType;
import javax.lang.model.type.TypeKind;
import javax.lang.model.type.TypeMirror;
import javax.tools.JavaFileObject;
import javax.tools.ToolProvider;

/**
 * Tells where a program leaves ../shared/LANGUAGE.md. It is stricter than the rules where LockgateRouter needs
 * less than they give (no try, no cast among classes, no recursion, counted loops alone), so that what it lets
 * pass can be told from the syntax. What stands in FaceTest is not asked here again.
 */
final class LanguageRules extends TreePathScanner<Void, Void> {
    private static final int MOST_PARAMETERS = 7;
    private static final int MOST_LINES = 60;
    private static final int MOST_CALLS_DEEP = 8;
    private static final int MOST_CLASSES = 12;
    private static final int MOST_FIELDS = 20;

    private static final Map<Tree.Kind, Integer> RULE_AGAINST = Map.ofEntries(
        Map.entry(Tree.Kind.PACKAGE, 1),
        Map.entry(Tree.Kind.LAMBDA_EXPRESSION, 2),
        Map.entry(Tree.Kind.MEMBER_REFERENCE, 2),
        Map.entry(Tree.Kind.TRY, 6),
        Map.entry(Tree.Kind.SYNCHRONIZED, 6),
        Map.entry(Tree.Kind.ASSERT, 6),
        Map.entry(Tree.Kind.INSTANCE_OF, 6),
        Map.entry(Tree.Kind.WHILE_LOOP, 9),
        Map.entry(Tree.Kind.DO_WHILE_LOOP, 9));
    private static final Set<String> IMPORTS = Set.of("java.util.ArrayList", "java.util.List", "java.util.Arrays",
        "java.util.Iterator", "java.util.NoSuchElementException");
    private static final String TEXT = "java.lang.String";
    private static final String NUMBER = "java.lang.Integer";
    private static final Set<String> LIBRARY_TYPES = Set.of(TEXT, NUMBER, "java.lang.StringBuilder",
        "java.util.ArrayList", "java.util.List");
    private static final Set<String> LIBRARY_MADE = Set.of("java.lang.String.String(char[])",
        "java.lang.StringBuilder.StringBuilder()", "java.util.ArrayList.ArrayList()");
    private static final Set<String> LIBRARY_CALLS = Set.of(
        "java.lang.String.length()", "java.lang.String.charAt(int)", "java.lang.String.isEmpty()",
        "java.lang.String.equals(java.lang.Object)", "java.lang.String.indexOf(int)",
        "java.lang.String.substring(int)", "java.lang.String.substring(int,int)", "java.lang.String.toCharArray()",
        "java.lang.StringBuilder.append(char)", "java.lang.StringBuilder.append(java.lang.String)",
        "java.lang.StringBuilder.append(int)", "java.lang.StringBuilder.charAt(int)",
        "java.lang.StringBuilder.setCharAt(int,char)", "java.lang.StringBuilder.setLength(int)",
        "java.lang.StringBuilder.deleteCharAt(int)", "java.lang.StringBuilder.reverse()",
        "java.lang.StringBuilder.length()", "java.lang.StringBuilder.toString()",
        "java.util.ArrayList.add(E)", "java.util.ArrayList.add(int,E)", "java.util.ArrayList.get(int)",
        "java.util.ArrayList.set(int,E)", "java.util.ArrayList.remove(int)", "java.util.ArrayList.size()",
        "java.util.ArrayList.isEmpty()", "java.util.ArrayList.clear()",
        "java.util.List.add(E)", "java.util.List.add(int,E)", "java.util.List.get(int)",
        "java.util.List.set(int,E)", "java.util.List.remove(int)", "java.util.List.size()",
        "java.util.List.isEmpty()", "java.util.List.clear()",
        "java.lang.Math.abs(int)", "java.lang.Math.max(int,int)", "java.lang.Math.min(int,int)",
        "java.lang.Math.floorDiv(int,int)", "java.lang.Math.floorMod(int,int)",
        "java.lang.Integer.compare(int,int)", "java.lang.Integer.bitCount(int)");
    private static final Set<String> THROWN = Set.of("IllegalStateException", "IllegalArgumentException",
        "IndexOutOfBoundsException", "ArithmeticException", "UnsupportedOperationException",
        "NoSuchElementException", "RuntimeException");
    private static final Set<String> NOT_OF_ONES_OWN = Set.of("equals", "hashCode", "toString", "finalize");

    private final List<String> faults = new ArrayList<>();
    private final Map<Element, Set<Element>> calls = new LinkedHashMap<>();
    private final Trees trees;
    private final CompilationUnitTree unit;
    private int classes;

    private LanguageRules(Trees trees, CompilationUnitTree unit) {
        this.trees = trees;
        this.unit = unit;
    }

    /** Returns one line for each place where the program leaves the rules, the rule's number first. */
    static List<String> faultsOf(JavaFileObject source) throws IOException {
        JavacTask task = (JavacTask) ToolProvider.getSystemJavaCompiler()
            .getTask(null, null, null, List.of("-proc:none"), null, List.of(source));
        CompilationUnitTree unit = task.parse().iterator().next();
        task.analyze();
        LanguageRules rules = new LanguageRules(Trees.instance(task), unit);
        rules.scan(unit, null);
        rules.lookAtCalls();
        return rules.faults;
    }

    private void fault(int rule, Tree at, String what) {
        long start = trees.getSourcePositions().getStartPosition(unit, at);
        faults.add(rule + ": " + what + " in line " + lineOf(start));
    }

    private long lineOf(long position) {
        return position < 0 ? 0 : unit.getLineMap().getLineNumber(position);
    }

    private Element elementHere() {
        return trees.getElement(getCurrentPath());
    }

    private TypeMirror typeOf(Tree tree) {
        return trees.getTypeMirror(new TreePath(getCurrentPath(), tree));
    }

    private boolean isOwn(Element element) {
        TreePath path = trees.getPath(element);
        return path != null && path.getCompilationUnit() == unit;
    }

    @Override
    public Void scan(Tree tree, Void nothing) {
        if (tree != null && RULE_AGAINST.containsKey(tree.getKind())) {
            fault(RULE_AGAINST.get(tree.getKind()), tree, tree.getKind().toString());
        }
        return super.scan(tree, nothing);
    }

    @Override
    public Void visitImport(ImportTree tree, Void nothing) {
        if (tree.isStatic() || !IMPORTS.contains(tree.getQualifiedIdentifier().toString())) {
            fault(4, tree, "import " + tree.getQualifiedIdentifier());
        }
        return null;
    }

    @Override
    public Void visitClass(ClassTree tree, Void nothing) {
        classes++;
        if (classes > MOST_CLASSES) {
            fault(11, tree, "one class more than " + MOST_CLASSES);
        }
        Tree above = tree.getExtendsClause();
        if (above != null && !isOwn(trees.getElement(new TreePath(getCurrentPath(), above)))) {
            fault(2, tree, "extends " + above);
        }
        if (methodHere() != null) {
            fault(2, tree, "a class in a method");
        }
        long fields = elementHere().getEnclosedElements().stream()
            .filter(member -> member.getKind() == ElementKind.FIELD && !member.getModifiers().contains(Modifier.STATIC))
            .count();
        if (fields > MOST_FIELDS) {
            fault(11, tree, fields + " fields");
        }
        return super.visitClass(tree, nothing);
    }

    @Override
    public Void visitBlock(BlockTree tree, Void nothing) {
        if (tree.isStatic()) {
            fault(5, tree, "static initialiser block");
        }
        return super.visitBlock(tree, nothing);
    }

    @Override
    public Void visitVariable(VariableTree tree, Void nothing) {
        VariableElement variable = (VariableElement) elementHere();
        if (variable.getModifiers().contains(Modifier.STATIC) && variable.getConstantValue() == null) {
            fault(5, tree, "static field " + tree.getName() + " is no constant");
        }
        lookAtType(tree, variable.asType(), "variable " + tree.getName());
        return super.visitVariable(tree, nothing);
    }

    private void lookAtType(Tree at, TypeMirror type, String what) {
        if (!isAllowed(type)) {
            fault(3, at, what + " of the type " + type);
        }
    }

    private boolean isAllowed(TypeMirror type) {
        if (type.getKind().isPrimitive()) {
            // Doubles and floats would be allowed with few of their operations: the program needs none.
            return type.getKind() != TypeKind.DOUBLE && type.getKind() != TypeKind.FLOAT;
        }
        if (type.getKind() == TypeKind.ARRAY) {
            TypeMirror part = ((ArrayType) type).getComponentType();
            return isAllowed(part) && (part.getKind() != TypeKind.ARRAY || isRowOfNumbers((ArrayType) part));
        }
        if (type.getKind() != TypeKind.DECLARED) {
            return type.getKind() == TypeKind.VOID || type.getKind() == TypeKind.TYPEVAR;
        }
        DeclaredType declared = (DeclaredType) type;
        boolean partsAllowed = declared.getTypeArguments().stream().allMatch(this::isAllowed);
        return partsAllowed && (isOwn(declared.asElement()) || LIBRARY_TYPES.contains(declared.asElement().toString()));
    }

    private static boolean isRowOfNumbers(ArrayType type) {
        return type.getComponentType().getKind().isPrimitive();
    }

    @Override
    public Void visitMethod(MethodTree tree, Void nothing) {
        Element method = elementHere();
        calls.putIfAbsent(method, new LinkedHashSet<>());
        if (NOT_OF_ONES_OWN.contains(tree.getName().toString())) {
            fault(6, tree, "a method " + tree.getName() + " of its own");
        }
        if (tree.getParameters().size() > MOST_PARAMETERS) {
            fault(11, tree, tree.getName() + " takes " + tree.getParameters().size());
        }
        long first = lineOf(trees.getSourcePositions().getStartPosition(unit, tree));
        long last = lineOf(trees.getSourcePositions().getEndPosition(unit, tree));
        if (last - first >= MOST_LINES) {
            fault(11, tree, tree.getName() + " is long");
        }
        if (tree.getReturnType() != null) {
            lookAtType(tree, typeOf(tree.getReturnType()), "method " + tree.getName());
        }
        return super.visitMethod(tree, nothing);
    }

    @Override
    public Void visitMethodInvocation(MethodInvocationTree tree, Void nothing) {
        Element called = elementHere();
        if (isOwn(called)) {
            noteCallOf(called);
        } else if (called.getKind() != ElementKind.CONSTRUCTOR && !LIBRARY_CALLS.contains(longName(called))) {
            // A constructor called here is that of the class above, of which visitClass tells.
            fault(4, tree, longName(called));
        }
        return super.visitMethodInvocation(tree, nothing);
    }

    @Override
    public Void visitNewClass(NewClassTree tree, Void nothing) {
        Element made = elementHere();
        boolean isThrown = getCurrentPath().getParentPath().getLeaf().getKind() == Tree.Kind.THROW;
        if (isOwn(made.getEnclosingElement())) {
            noteCallOf(made);
        } else if (!isThrown && !LIBRARY_MADE.contains(longName(made))) {
            fault(4, tree, "new " + longName(made));
        }
        return super.visitNewClass(tree, nothing);
    }

    /** What a StringBuilder has from a class above it that nobody sees bears the StringBuilder's name. */
    private static String longName(Element method) {
        return (method.getEnclosingElement() + "." + method).replace("AbstractStringBuilder", "StringBuilder");
    }

    private void noteCallOf(Element called) {
        Element caller = methodHere();
        if (caller != null) {
            calls.computeIfAbsent(caller, key -> new LinkedHashSet<>()).add(called);
        }
    }

    private Element methodHere() {
        for (TreePath path = getCurrentPath(); path != null; path = path.getParentPath()) {
            if (path.getLeaf().getKind() == Tree.Kind.METHOD) {
                return trees.getElement(path);
            }
        }
        return null;
    }

    @Override
    public Void visitThrow(ThrowTree tree, Void nothing) {
        Element thrower = methodHere();
        if (thrower == null || thrower.getKind() == ElementKind.CONSTRUCTOR) {
            fault(6, tree, "throw in a constructor");
        }
        if (!isPlainThrow(tree.getExpression())) {
            fault(6, tree, "throw " + tree.getExpression());
        }
        return super.visitThrow(tree, nothing);
    }

    private static boolean isPlainThrow(ExpressionTree thrown) {
        if (thrown.getKind() != Tree.Kind.NEW_CLASS) {
            return false;
        }
        NewClassTree made = (NewClassTree) thrown;
        List<? extends ExpressionTree> texts = made.getArguments();
        boolean written = texts.stream().allMatch(text -> text.getKind() == Tree.Kind.STRING_LITERAL);
        return written && texts.size() <= 1 && made.getClassBody() == null && THROWN.contains(made.getIdentifier().toString());
    }

    @Override
    public Void visitTypeCast(TypeCastTree tree, Void nothing) {
        if (!typeOf(tree.getType()).getKind().isPrimitive()) {
            fault(6, tree, "cast to " + tree.getType());
        }
        return super.visitTypeCast(tree, nothing);
    }

    @Override
    public Void visitBinary(BinaryTree tree, Void nothing) {
        boolean joins = is(TEXT, tree.getLeftOperand()) || is(TEXT, tree.getRightOperand());
        if (joins && tree.getKind() == Tree.Kind.PLUS) {
            fault(10, tree, "texts joined by +");
        }
        boolean compares = tree.getKind() == Tree.Kind.EQUAL_TO || tree.getKind() == Tree.Kind.NOT_EQUAL_TO;
        if (compares && (areBoth(TEXT, tree) || areBoth(NUMBER, tree))) {
            fault(6, tree, "Strings or Integers compared by " + tree.getKind());
        }
        return super.visitBinary(tree, nothing);
    }

    @Override
    public Void visitCompoundAssignment(CompoundAssignmentTree tree, Void nothing) {
        if (is(TEXT, tree.getVariable())) {
            fault(10, tree, "texts joined by +=");
        }
        return super.visitCompoundAssignment(tree, nothing);
    }

    private boolean areBoth(String type, BinaryTree tree) {
        return is(type, tree.getLeftOperand()) && is(type, tree.getRightOperand());
    }

    private boolean is(String type, Tree operand) {
        return type.equals(String.valueOf(typeOf(operand)));
    }

    @Override
    public Void visitForLoop(ForLoopTree tree, Void nothing) {
        if (tree.getCondition() == null || tree.getUpdate().isEmpty()) {
            fault(9, tree, "a loop without a count");
        }
        return super.visitForLoop(tree, nothing);
    }

    @Override
    public Void visitLiteral(LiteralTree tree, Void nothing) {
        if (tree.getValue() instanceof String text && !text.chars().allMatch(sign -> sign >= 1 && sign <= 127)) {
            fault(4, tree, "a text with a sign that is not 1 to 127");
        }
        return super.visitLiteral(tree, nothing);
    }

    private void lookAtCalls() {
        Map<Element, Integer> depths = new HashMap<>();
        for (Element method : calls.keySet()) {
            int depth = depthOf(method, new ArrayList<>(), depths);
            if (depth > MOST_CALLS_DEEP) {
                faults.add("11: calls go " + depth + " deep from " + longName(method));
            }
        }
    }

    private int depthOf(Element method, List<Element> open, Map<Element, Integer> depths) {
        if (open.contains(method)) {
            faults.add("8: recursion of " + longName(method));
            return 0;
        }
        if (depths.containsKey(method)) {
            return depths.get(method);
        }
        open.add(method);
        int deepest = 0;
        for (Element called : calls.getOrDefault(method, Set.of())) {
            deepest = Math.max(deepest, depthOf(called, open, depths));
        }
        open.remove(method);
        depths.put(method, deepest + 1);
        return deepest + 1;
    }
}
