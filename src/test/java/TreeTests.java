import com.sun.source.tree.*;
import com.sun.source.util.JavacTask;
import com.sun.source.util.TreePath;
import com.sun.source.util.TreePathScanner;
import com.sun.source.util.Trees;
import java.io.IOException;
import java.nio.charset.StandardCharsets;
import java.nio.file.Path;
import java.util.ArrayList;
import java.util.HashMap;
import java.util.HashSet;
import java.util.List;
import java.util.Map;
import java.util.Set;
import java.util.TreeMap;
import java.util.TreeSet;
import javax.lang.model.element.Element;
import javax.lang.model.element.ElementKind;
import javax.lang.model.element.ExecutableElement;
import javax.lang.model.element.Modifier;
import javax.lang.model.element.TypeElement;
import javax.lang.model.element.VariableElement;
import javax.lang.model.type.ArrayType;
import javax.lang.model.type.TypeKind;
import javax.lang.model.type.TypeMirror;
import javax.tools.JavaCompiler;
import javax.tools.StandardJavaFileManager;
import javax.tools.ToolProvider;

/**
 * The rules of LANGUAGE.md that can be seen in the class's text as javac reads it, with the type
 * of each part: rule by rule, each thing that is found there is held. Run from the project's folder.
 */
public final class TreeTests extends TreePathScanner<Void, Void> {
    private static final String MAIN = "src/main/java/TurnRing.java";
    private static final int DEEP_MOST = 8;
    private static final int LINES_MOST = 60;

    /** Rule 4, as far as the class needs it: Exact functions, and all else of these classes, are left out. */
    private static final Map<String, Set<String>> LIBRARY = Map.of(
            "java.lang.String", Set.of("length", "charAt", "isEmpty", "equals", "indexOf", "substring", "toCharArray"),
            "java.lang.Math", Set.of("max", "min", "abs", "floorDiv", "floorMod"),
            "java.lang.Integer", Set.of("compare", "max", "min", "bitCount"),
            "java.lang.Long", Set.of("compare", "max", "min", "bitCount"),
            "java.lang.System", Set.of("arraycopy"),
            "java.util.Arrays", Set.of("copyOf", "copyOfRange", "fill"),
            "java.lang.Object", Set.of("<init>"));

    /** What stands nowhere, by rules 2 and 6; and do, whose end can't be seen ahead of it. */
    private static final Set<Tree.Kind> NEVER = Set.of(Tree.Kind.LAMBDA_EXPRESSION, Tree.Kind.MEMBER_REFERENCE, Tree.Kind.THROW,
            Tree.Kind.TRY, Tree.Kind.SYNCHRONIZED, Tree.Kind.ASSERT, Tree.Kind.DO_WHILE_LOOP);

    private static final Set<Tree.Kind> NUMBERS = Set.of(Tree.Kind.INT_LITERAL, Tree.Kind.LONG_LITERAL, Tree.Kind.CHAR_LITERAL);

    private final Trees trees;
    private final CompilationUnitTree unit;
    /** By method: the methods it calls, the library's with them. */
    private final Map<String, Set<String>> calls = new TreeMap<>();
    private final Map<String, ExecutableElement> methods = new HashMap<>();

    private TreeTests(Trees trees, CompilationUnitTree unit) {
        this.trees = trees;
        this.unit = unit;
    }

    public static void main(String[] args) throws IOException {
        JavaCompiler javac = ToolProvider.getSystemJavaCompiler();
        try (StandardJavaFileManager files = javac.getStandardFileManager(null, null, StandardCharsets.UTF_8)) {
            JavacTask task = (JavacTask) javac.getTask(null, files, null, List.of("-proc:none"), null, files.getJavaFileObjects(Path.of(MAIN)));
            CompilationUnitTree unit = task.parse().iterator().next();
            task.analyze();
            TreeTests tests = new TreeTests(Trees.instance(task), unit);
            tests.scan(unit, null);
            tests.heldOfCalls();
        }
        Checks.finish();
    }

    // ---- where it is

    private String at(Tree tree) {
        long line = unit.getLineMap().getLineNumber(trees.getSourcePositions().getStartPosition(unit, tree));
        String words = tree.toString().replaceAll("\\s+", " ").trim();
        return "line " + line + ": " + (words.length() > 60 ? words.substring(0, 60) + " .." : words);
    }

    private void held(int rule, String what, Tree tree, boolean holds) {
        Checks.due("rule " + rule + ", " + what + ", " + at(tree), holds, true);
    }

    private TypeMirror typeOf(Tree tree) {
        return trees.getTypeMirror(new TreePath(getCurrentPath(), tree));
    }

    private Element elementOf(Tree tree) {
        return trees.getElement(new TreePath(getCurrentPath(), tree));
    }

    @Override
    public Void scan(Tree tree, Void v) {
        if (tree != null && NEVER.contains(tree.getKind())) held(6, "nowhere " + tree.getKind(), tree, false);
        return super.scan(tree, v);
    }

    // ---- rule 2: classes inside

    @Override
    public Void visitClass(ClassTree tree, Void v) {
        Tree outside = getCurrentPath().getParentPath().getLeaf();
        boolean inside = outside instanceof ClassTree;
        held(2, "the file's class, or one inside it", tree, inside || outside instanceof CompilationUnitTree);
        if (inside) {
            Set<Modifier> flags = tree.getModifiers().getFlags();
            held(2, "static", tree, flags.contains(Modifier.STATIC) || tree.getKind() != Tree.Kind.CLASS);
            held(1, "private or package-visible", tree, !flags.contains(Modifier.PUBLIC) && !flags.contains(Modifier.PROTECTED));
        }
        for (Tree member : tree.getMembers()) {
            held(5, "no block that begins a class", member, member.getKind() != Tree.Kind.BLOCK);
        }
        return super.visitClass(tree, v);
    }

    // ---- rule 3: types

    private static boolean isNumber(TypeMirror type) {
        TypeKind kind = type.getKind();
        return kind.isPrimitive() && kind != TypeKind.BOOLEAN;
    }

    private static boolean isOwn(TypeMirror type) {
        return type.getKind() == TypeKind.DECLARED && type.toString().startsWith("TurnRing");
    }

    private static boolean isString(TypeMirror type) {
        return type.toString().equals("java.lang.String");
    }

    private static boolean isAllowed(TypeMirror type) {
        if (type instanceof ArrayType row) {
            TypeMirror of = row.getComponentType();
            boolean two = of instanceof ArrayType inner && isNumber(inner.getComponentType());
            return of.getKind().isPrimitive() || isOwn(of) || two;
        }
        return type.getKind().isPrimitive() || isOwn(type) || isString(type);
    }

    @Override
    public Void visitVariable(VariableTree tree, Void v) {
        TypeMirror type = trees.getTypeMirror(getCurrentPath());
        held(3, "a type of these", tree, isAllowed(type));
        Set<Modifier> flags = tree.getModifiers().getFlags();
        if (flags.contains(Modifier.STATIC)) {
            boolean row = type instanceof ArrayType r && isNumber(r.getComponentType());
            boolean constant = type.getKind() == TypeKind.INT || type.getKind() == TypeKind.LONG || type.getKind() == TypeKind.CHAR
                    || type.getKind() == TypeKind.BOOLEAN || isString(type) || row;
            held(5, "a constant", tree, flags.contains(Modifier.FINAL) && constant && tree.getInitializer() != null);
        }
        return super.visitVariable(tree, v);
    }

    // ---- rule 4: the library

    private String nameOf(ExecutableElement method) {
        return ((TypeElement) method.getEnclosingElement()).getQualifiedName() + "." + method;
    }

    private String methodAround() {
        for (TreePath path = getCurrentPath(); path != null; path = path.getParentPath()) {
            if (path.getLeaf() instanceof MethodTree) return nameOf((ExecutableElement) trees.getElement(path));
        }
        return "a field";
    }

    private void keepCall(ExecutableElement called) {
        methods.put(nameOf(called), called);
        calls.computeIfAbsent(methodAround(), k -> new TreeSet<>()).add(nameOf(called));
    }

    @Override
    public Void visitMethodInvocation(MethodInvocationTree tree, Void v) {
        ExecutableElement called = (ExecutableElement) trees.getElement(getCurrentPath());
        String owner = ((TypeElement) called.getEnclosingElement()).getQualifiedName().toString();
        keepCall(called);
        if (!owner.startsWith("TurnRing")) {
            String name = called.getSimpleName().toString();
            held(4, "of the library", tree, LIBRARY.getOrDefault(owner, Set.of()).contains(name));
            if (owner.equals("java.util.Arrays") || owner.equals("java.lang.System")) {
                for (ExpressionTree argument : tree.getArguments()) {
                    TypeMirror type = typeOf(argument);
                    held(4, "over arrays of numbers", tree, !(type instanceof ArrayType row) || isNumber(row.getComponentType()));
                }
            }
        }
        return super.visitMethodInvocation(tree, v);
    }

    @Override
    public Void visitNewClass(NewClassTree tree, Void v) {
        held(2, "no class without a name", tree, tree.getClassBody() == null);
        held(3, "an object of an own class", tree, isOwn(typeOf(tree.getIdentifier())));
        keepCall((ExecutableElement) trees.getElement(getCurrentPath()));
        return super.visitNewClass(tree, v);
    }

    @Override
    public Void visitNewArray(NewArrayTree tree, Void v) {
        held(3, "a type of these", tree, isAllowed(trees.getTypeMirror(getCurrentPath())));
        for (ExpressionTree length : tree.getDimensions()) {
            held(7, "a length that is a constant", length, isConstant(length));
        }
        return super.visitNewArray(tree, v);
    }

    // ---- rule 6: what is not used

    @Override
    public Void visitTypeCast(TypeCastTree tree, Void v) {
        held(6, "a cast to a number", tree, isNumber(typeOf(tree.getType())) && isNumber(typeOf(tree.getExpression())));
        return super.visitTypeCast(tree, v);
    }

    @Override
    public Void visitMethod(MethodTree tree, Void v) {
        String name = tree.getName().toString();
        held(6, "no equals, hashCode, toString of its own", tree, !Set.of("equals", "hashCode", "toString").contains(name));
        held(11, "seven parameters at most", tree, tree.getParameters().size() <= 7);
        LineMap lines = unit.getLineMap();
        long first = lines.getLineNumber(trees.getSourcePositions().getStartPosition(unit, tree));
        long last = lines.getLineNumber(trees.getSourcePositions().getEndPosition(unit, tree));
        held(11, "some sixty lines at most", tree, last - first < LINES_MOST);
        return super.visitMethod(tree, v);
    }

    // ---- rule 7: divisors; rule 10: no text is joined by +

    private boolean isConstant(ExpressionTree tree) {
        if (tree instanceof ParenthesizedTree in) return isConstant(in.getExpression());
        if (tree instanceof BinaryTree two) return isConstant(two.getLeftOperand()) && isConstant(two.getRightOperand());
        if (NUMBERS.contains(tree.getKind())) return true;
        return elementOf(tree) instanceof VariableElement named && named.getConstantValue() != null;
    }

    /** A constant other than 0; or it stands behind "divisor == 0 ? .. :". */
    private boolean divides(BinaryTree tree) {
        ExpressionTree divisor = tree.getRightOperand();
        if (isConstant(divisor)) return !(divisor instanceof LiteralTree number) || ((Number) number.getValue()).longValue() != 0;
        return getCurrentPath().getParentPath().getLeaf() instanceof ConditionalExpressionTree choice
                && choice.getFalseExpression() == tree
                && choice.getCondition().toString().equals(divisor + " == 0");
    }

    @Override
    public Void visitBinary(BinaryTree tree, Void v) {
        TypeMirror left = typeOf(tree.getLeftOperand());
        TypeMirror right = typeOf(tree.getRightOperand());
        switch (tree.getKind()) {
            case DIVIDE:
            case REMAINDER:
                held(7, "a divisor that is not 0", tree, divides(tree));
                break;
            case PLUS:
                held(10, "no texts joined by +", tree, isNumber(left) && isNumber(right));
                break;
            case EQUAL_TO:
            case NOT_EQUAL_TO:
                held(6, "no two Strings held against one another", tree, !isString(left) && !isString(right));
                break;
            default:
                break;
        }
        return super.visitBinary(tree, v);
    }

    @Override
    public Void visitCompoundAssignment(CompoundAssignmentTree tree, Void v) {
        Tree.Kind kind = tree.getKind();
        boolean divides = kind == Tree.Kind.DIVIDE_ASSIGNMENT || kind == Tree.Kind.REMAINDER_ASSIGNMENT;
        held(7, "a divisor that is not 0", tree, !divides || isConstant(tree.getExpression()));
        held(10, "numbers alone", tree, isNumber(typeOf(tree.getVariable())));
        return super.visitCompoundAssignment(tree, v);
    }

    // ---- rule 9: loops

    private static boolean hasBound(Tree condition) {
        String words = String.valueOf(condition);
        return words.contains("<") || words.contains(">");
    }

    @Override
    public Void visitForLoop(ForLoopTree tree, Void v) {
        held(9, "a counter against a bound", tree, hasBound(tree.getCondition()) && tree.getUpdate().size() == 1);
        return super.visitForLoop(tree, v);
    }

    @Override
    public Void visitWhileLoop(WhileLoopTree tree, Void v) {
        held(9, "a counter against a bound", tree, hasBound(tree.getCondition()));
        return super.visitWhileLoop(tree, v);
    }

    // ---- rules 8, 11 and 12: who calls whom

    private void heldOfCalls() {
        for (String method : calls.keySet()) {
            if (reaches(method, method, new HashSet<>())) {
                ExecutableElement itself = methods.get(method);
                boolean carriesDepth = itself.getParameters().stream().anyMatch(p -> p.getSimpleName().contentEquals("depth"));
                Checks.due("rule 8, a private method that carries its depth: " + method,
                        carriesDepth && itself.getModifiers().contains(Modifier.PRIVATE), true);
            }
            List<String> chain = longestFrom(method, new HashSet<>());
            Checks.due("rule 11, at most eight deep: " + chain, chain.size() <= DEEP_MOST, true);
        }
        Checks.due("rule 11: calls were found", calls.size() > 50, true);
        for (ExecutableElement method : methods.values()) {
            if (method.getKind() == ElementKind.CONSTRUCTOR) {
                Set<String> called = calls.getOrDefault(nameOf(method), Set.of());
                Checks.due("rule 12, a constructor that calls no method: " + nameOf(method) + " " + called,
                        called.stream().allMatch(c -> methods.get(c).getKind() == ElementKind.CONSTRUCTOR), true);
            }
        }
    }

    private boolean reaches(String from, String sought, Set<String> gone) {
        for (String next : calls.getOrDefault(from, Set.of())) {
            if (next.equals(sought)) return true;
            if (gone.add(next) && reaches(next, sought, gone)) return true;
        }
        return false;
    }

    /** The longest row of methods that call one another, each once: what is a recursion counts as one level of it. */
    private List<String> longestFrom(String method, Set<String> open) {
        List<String> longest = List.of();
        open.add(method);
        for (String next : calls.getOrDefault(method, Set.of())) {
            if (open.contains(next)) continue;
            List<String> chain = longestFrom(next, open);
            if (chain.size() > longest.size()) longest = chain;
        }
        open.remove(method);
        List<String> all = new ArrayList<>(List.of(method));
        all.addAll(longest);
        return all;
    }
}
