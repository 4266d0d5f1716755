import com.sun.source.tree.AssertTree;
import com.sun.source.tree.BinaryTree;
import com.sun.source.tree.BlockTree;
import com.sun.source.tree.CatchTree;
import com.sun.source.tree.ClassTree;
import com.sun.source.tree.CompilationUnitTree;
import com.sun.source.tree.CompoundAssignmentTree;
import com.sun.source.tree.DoWhileLoopTree;
import com.sun.source.tree.ExpressionTree;
import com.sun.source.tree.ForLoopTree;
import com.sun.source.tree.IdentifierTree;
import com.sun.source.tree.ImportTree;
import com.sun.source.tree.LambdaExpressionTree;
import com.sun.source.tree.LiteralTree;
import com.sun.source.tree.MemberReferenceTree;
import com.sun.source.tree.MethodInvocationTree;
import com.sun.source.tree.MethodTree;
import com.sun.source.tree.NewArrayTree;
import com.sun.source.tree.NewClassTree;
import com.sun.source.tree.SynchronizedTree;
import com.sun.source.tree.ThrowTree;
import com.sun.source.tree.Tree;
import com.sun.source.tree.TryTree;
import com.sun.source.tree.VariableTree;
import com.sun.source.tree.WhileLoopTree;
import com.sun.source.util.JavacTask;
import com.sun.source.util.TreePath;
import com.sun.source.util.TreePathScanner;
import com.sun.source.util.Trees;
import java.io.IOException;
import java.nio.file.Path;
import java.util.ArrayList;
import java.util.HashMap;
import java.util.HashSet;
import java.util.List;
import java.util.Map;
import java.util.Set;
import javax.lang.model.element.Element;
import javax.lang.model.element.ElementKind;
import javax.lang.model.element.Modifier;
import javax.lang.model.type.ArrayType;
import javax.lang.model.type.TypeKind;
import javax.lang.model.type.TypeMirror;
import javax.tools.JavaCompiler;
import javax.tools.StandardJavaFileManager;
import javax.tools.ToolProvider;

/** The rules of LANGUAGE.md that a look at the program's tree can tell; the number in a test's name is the rule's. */
final class LanguageTest {
    private static final Path PROGRAM = Path.of("src/main/java/Walkwatch.java");

    private static final int MOST_LINES = 60;
    private static final int MOST_DEPTH = 8;
    private static final int MOST_PARAMETERS = 7;
    private static final int MOST_CLASSES = 12;
    private static final int MOST_FIELDS = 20;

    private static final Set<String> EXCEPTIONS = Set.of("IllegalStateException", "IllegalArgumentException",
            "IndexOutOfBoundsException", "ArithmeticException", "UnsupportedOperationException",
            "NoSuchElementException", "RuntimeException");
    // Not in the list of rule 6, but in the document's face.
    private static final String REFUSAL = "java.util.ConcurrentModificationException";

    private static final Set<TypeKind> NUMBERS = Set.of(TypeKind.INT, TypeKind.LONG, TypeKind.SHORT, TypeKind.BYTE,
            TypeKind.CHAR, TypeKind.BOOLEAN, TypeKind.DOUBLE, TypeKind.FLOAT);

    private static final Set<String> LIBRARY = Set.of(
            "String.length", "String.charAt", "String.isEmpty", "String.equals", "String.indexOf", "String.substring",
            "String.toCharArray", "StringBuilder.append", "StringBuilder.charAt", "StringBuilder.setCharAt",
            "StringBuilder.setLength", "StringBuilder.deleteCharAt", "StringBuilder.reverse", "StringBuilder.length",
            "StringBuilder.toString", "System.arraycopy", "Arrays.copyOf", "Arrays.copyOfRange", "Arrays.fill");

    private LanguageTest() {
    }

    public static void main(String[] args) throws IOException {
        read(PROGRAM);
        Check.runAll(LanguageTest.class, "rule");
    }

    // ---- the program's tree

    private static final List<Found> ALL = new ArrayList<>();
    private static CompilationUnitTree unit;
    private static Trees trees;

    /** A piece of the program, with the method or the class that it stands in. */
    private static final class Found {
        final Tree tree;
        final Element element;
        final MethodTree method;
        final boolean isInLoop;
        final Tree parent;

        Found(TreePath path) {
            tree = path.getLeaf();
            element = trees.getElement(path);
            parent = path.getParentPath() == null ? null : path.getParentPath().getLeaf();
            MethodTree around = null;
            boolean loop = false;
            for (Tree t : path) {
                if (around == null && t instanceof MethodTree m) {
                    around = m;
                }
                loop |= t != tree && (t instanceof ForLoopTree || t instanceof WhileLoopTree
                        || t instanceof DoWhileLoopTree);
            }
            method = around;
            isInLoop = loop;
        }
    }

    private static void read(Path program) throws IOException {
        JavaCompiler compiler = ToolProvider.getSystemJavaCompiler();
        try (StandardJavaFileManager files = compiler.getStandardFileManager(null, null, null)) {
            JavacTask task = (JavacTask) compiler.getTask(null, files, null, List.of("-proc:none"), null,
                    files.getJavaFileObjects(program));
            unit = task.parse().iterator().next();
            task.analyze();
            trees = Trees.instance(task);
            new TreePathScanner<Void, Void>() {
                @Override
                public Void scan(Tree tree, Void none) {
                    if (tree != null) {
                        TreePath above = getCurrentPath();
                        ALL.add(new Found(above == null ? new TreePath(unit) : new TreePath(above, tree)));
                    }
                    return super.scan(tree, none);
                }
            }.scan(new TreePath(unit), null);
        }
    }

    private static <T extends Tree> List<Found> each(Class<T> kind) {
        List<Found> found = new ArrayList<>();
        for (Found f : ALL) {
            if (kind.isInstance(f.tree)) {
                found.add(f);
            }
        }
        return found;
    }

    private static void none(Class<? extends Tree> kind) {
        for (Found f : each(kind)) {
            outside(f, kind.getSimpleName());
        }
    }

    private static void outside(Found f, String what) {
        long position = trees.getSourcePositions().getStartPosition(unit, f.tree);
        Check.fault("line " + unit.getLineMap().getLineNumber(position) + ": " + what + ": " + f.tree);
    }

    private static boolean isOwn(Element element) {
        Element e = element;
        while (e != null && e.getKind() != ElementKind.PACKAGE) {
            if (e.toString().equals("Walkwatch")) {
                return true;
            }
            e = e.getEnclosingElement();
        }
        return false;
    }

    private static boolean isConstructor(MethodTree method) {
        return method != null && method.getName().contentEquals("<init>");
    }

    private static boolean isWritten(Found f) {
        return trees.getSourcePositions().getEndPosition(unit, f.tree) > 0
                && trees.getSourcePositions().getStartPosition(unit, f.tree) >= 0;
    }

    // ---- the rules

    static void rule00TheProgramIsRead() {
        Check.same(each(ClassTree.class).size() > 1, true);
        Check.same(each(MethodTree.class).size() > 37, true);
        Check.same(each(ThrowTree.class).size() > 6, true);
    }

    static void rule01OneFileOneClassNoPackage() {
        Check.same(unit.getPackage() == null, true);
        Check.same(unit.getTypeDecls().size(), 1);
        ClassTree top = (ClassTree) unit.getTypeDecls().get(0);
        Check.same(top.getModifiers().getFlags(), Set.of(Modifier.PUBLIC, Modifier.FINAL));
        for (Found f : each(ImportTree.class)) {
            if (((ImportTree) f.tree).isStatic() || !Set.of("java.util.NoSuchElementException", "java.util.ArrayList",
                    "java.util.List", "java.util.Arrays", "java.util.Iterator")
                    .contains(((ImportTree) f.tree).getQualifiedIdentifier().toString())) {
                outside(f, "an import");
            }
        }
    }

    static void rule02NoLambdaNoReferenceNoLocalClass() {
        none(LambdaExpressionTree.class);
        none(MemberReferenceTree.class);
        for (Found f : each(ClassTree.class)) {
            if (f.method != null) {
                outside(f, "a class in a method");
            }
            boolean isTop = unit.getTypeDecls().contains(f.tree);
            if (!isTop && !f.element.getModifiers().contains(Modifier.STATIC)) {
                outside(f, "an inner class that is not static");
            }
        }
    }

    static void rule03TypesOfVariablesAndAnswers() {
        for (Found f : each(VariableTree.class)) {
            if (f.element.getKind() != ElementKind.EXCEPTION_PARAMETER && !isType(f.element.asType())) {
                outside(f, "a type");
            }
        }
        for (Found f : each(MethodTree.class)) {
            Tree answer = ((MethodTree) f.tree).getReturnType();
            if (answer != null && !answer.toString().equals("void")
                    && !isType(((javax.lang.model.element.ExecutableElement) f.element).getReturnType())) {
                outside(f, "a type");
            }
        }
    }

    private static boolean isType(TypeMirror type) {
        if (NUMBERS.contains(type.getKind())) {
            return true;
        }
        if (type instanceof ArrayType array) {
            TypeMirror part = array.getComponentType();
            return isType(part)
                    && (!(part instanceof ArrayType inner) || NUMBERS.contains(inner.getComponentType().getKind()));
        }
        String name = type.toString();
        return name.startsWith("Walkwatch.") || name.equals("java.lang.String") || name.equals("java.lang.StringBuilder")
                || name.equals("java.lang.Integer")
                || name.matches("java\\.util\\.(Array)?List<(java\\.lang\\.Integer|Walkwatch\\..*)>");
    }

    static void rule04And13TheLibrary() {
        for (Found f : each(MethodInvocationTree.class)) {
            if (f.element == null || isOwn(f.element) || f.element.getKind() == ElementKind.CONSTRUCTOR) {
                continue;
            }
            String owner = f.element.getEnclosingElement().getSimpleName().toString();
            String call = f.element.getSimpleName().toString();
            boolean isOfNumbers = Set.of("Integer", "Long", "Math").contains(owner) && !call.endsWith("Exact");
            boolean isOfLists = Set.of("ArrayList", "List").contains(owner)
                    && Set.of("add", "get", "set", "remove", "size", "isEmpty", "clear", "of").contains(call);
            if (!isOfNumbers && !isOfLists && !LIBRARY.contains(owner + "." + call)) {
                outside(f, "a call of the library");
            }
        }
    }

    static void rule05StaticFieldsAreConstants() {
        for (Found f : each(VariableTree.class)) {
            boolean isField = f.element.getKind() == ElementKind.FIELD;
            if (!isField || !f.element.getModifiers().contains(Modifier.STATIC)) {
                continue;
            }
            ExpressionTree value = ((VariableTree) f.tree).getInitializer();
            boolean isKept = value instanceof LiteralTree || value instanceof NewArrayTree
                    || value != null && value.toString().endsWith("values()");
            if (!f.element.getModifiers().contains(Modifier.FINAL) || !isKept) {
                outside(f, "a static field");
            }
        }
        for (Found f : each(BlockTree.class)) {
            if (((BlockTree) f.tree).isStatic()) {
                outside(f, "a static block");
            }
        }
    }

    static void rule06Exceptions() {
        for (Found f : each(ThrowTree.class)) {
            ExpressionTree thrown = ((ThrowTree) f.tree).getExpression();
            if (!(thrown instanceof NewClassTree made) || isConstructor(f.method) || made.getArguments().size() > 1
                    || !EXCEPTIONS.contains(made.getIdentifier().toString())
                            && !made.getIdentifier().toString().equals(REFUSAL)) {
                outside(f, "a throw");
            } else if (!made.getArguments().isEmpty() && !(made.getArguments().get(0) instanceof LiteralTree)) {
                outside(f, "a text of a throw");
            }
        }
        for (Found f : each(TryTree.class)) {
            TryTree tried = (TryTree) f.tree;
            if (tried.getFinallyBlock() != null || !tried.getResources().isEmpty()) {
                outside(f, "a try");
            }
        }
        for (Found f : each(CatchTree.class)) {
            String caught = ((CatchTree) f.tree).getParameter().getType().toString();
            if (!Set.of("IllegalStateException", "IllegalArgumentException", "UnsupportedOperationException",
                    "NoSuchElementException").contains(caught)) {
                outside(f, "a catch of what the machine throws, too");
            }
        }
        none(SynchronizedTree.class);
        none(AssertTree.class);
    }

    static void rule08NoRecursionAndRule11CallsGoAtMostEightDeep() {
        Map<Element, Set<Element>> calls = new HashMap<>();
        for (Found f : each(MethodInvocationTree.class)) {
            if (f.method != null && isOwn(f.element)) {
                Element caller = trees.getElement(trees.getPath(unit, f.method));
                calls.computeIfAbsent(caller, c -> new HashSet<>()).add(f.element);
            }
        }
        for (Element caller : calls.keySet()) {
            int depth = depth(calls, caller, 1);
            if (depth > MOST_DEPTH) {
                Check.fault(caller + " goes " + depth + " deep");
            }
        }
    }

    private static int depth(Map<Element, Set<Element>> calls, Element caller, int above) {
        int deepest = above;
        // What is deeper than this calls itself.
        if (above > 5 * MOST_DEPTH) {
            return deepest;
        }
        for (Element called : calls.getOrDefault(caller, Set.of())) {
            deepest = Math.max(deepest, depth(calls, called, above + 1));
        }
        return deepest;
    }

    static void rule09EachLoopHasItsEndInItsOwnLines() {
        for (Found f : ALL) {
            ExpressionTree condition = f.tree instanceof ForLoopTree loop ? loop.getCondition()
                    : f.tree instanceof WhileLoopTree loop ? loop.getCondition()
                    : f.tree instanceof DoWhileLoopTree loop ? loop.getCondition() : null;
            boolean isLoop = f.tree instanceof ForLoopTree || f.tree instanceof WhileLoopTree
                    || f.tree instanceof DoWhileLoopTree;
            // A counter against a bound is a comparison of numbers.
            if (isLoop && (condition == null || !condition.toString().matches("(?s).*[<>].*"))) {
                outside(f, "a loop");
            }
        }
    }

    static void rule10NoTextsAreJoinedByPlus() {
        for (Found f : ALL) {
            boolean isPlus = f.tree.getKind() == Tree.Kind.PLUS || f.tree.getKind() == Tree.Kind.PLUS_ASSIGNMENT;
            if (!isPlus) {
                continue;
            }
            Tree left = f.tree instanceof BinaryTree sum ? sum.getLeftOperand()
                    : ((CompoundAssignmentTree) f.tree).getVariable();
            TypeMirror type = trees.getTypeMirror(trees.getPath(unit, f.tree));
            if (!NUMBERS.contains(type.getKind())) {
                outside(f, "a joining by + of " + left);
            }
        }
    }

    static void rule11Sizes() {
        int classes = each(ClassTree.class).size();
        Check.same(classes <= MOST_CLASSES ? "" : classes + " classes", "");
        for (Found f : each(MethodTree.class)) {
            MethodTree method = (MethodTree) f.tree;
            if (!isWritten(f)) {
                continue;
            }
            long first = unit.getLineMap().getLineNumber(trees.getSourcePositions().getStartPosition(unit, method));
            long last = unit.getLineMap().getLineNumber(trees.getSourcePositions().getEndPosition(unit, method));
            if (method.getParameters().size() > MOST_PARAMETERS || last - first >= MOST_LINES) {
                outside(f, "a long method");
            }
        }
        for (Found f : each(ClassTree.class)) {
            int fields = 0;
            for (Tree member : ((ClassTree) f.tree).getMembers()) {
                boolean isConstant = member instanceof VariableTree v
                        && v.getModifiers().getFlags().contains(Modifier.STATIC);
                fields += member instanceof VariableTree && !isConstant ? 1 : 0;
            }
            if (fields > MOST_FIELDS) {
                outside(f, fields + " fields");
            }
        }
    }

    /** Narrower than the rule: a call makes nothing but the exception that it throws, so no run fills the room. */
    static void rule12NothingIsMadeBehindTheConstructorsButExceptions() {
        for (Found f : ALL) {
            boolean isMade = f.tree instanceof NewClassTree || f.tree instanceof NewArrayTree;
            boolean isField = f.parent instanceof VariableTree && f.method == null;
            if (isMade && !isField && !isConstructor(f.method) && !(f.parent instanceof ThrowTree)) {
                outside(f, "an object that a call makes");
            }
            if (isMade && f.parent instanceof ThrowTree && f.isInLoop) {
                outside(f, "an object made in a loop");
            }
        }
    }

    static void rule12ConstructorsCallNothing() {
        for (Found f : each(MethodInvocationTree.class)) {
            boolean isSuper = ((MethodInvocationTree) f.tree).getMethodSelect() instanceof IdentifierTree name
                    && name.getName().contentEquals("super");
            if (isConstructor(f.method) && !isSuper) {
                outside(f, "a call in a constructor");
            }
        }
    }
}
