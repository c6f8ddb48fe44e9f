import com.sun.source.tree.*;
import com.sun.source.util.*;
import java.nio.charset.StandardCharsets;
import java.nio.file.Files;
import java.nio.file.Path;
import java.util.ArrayList;
import java.util.EnumSet;
import java.util.HashMap;
import java.util.LinkedHashMap;
import java.util.LinkedHashSet;
import java.util.List;
import java.util.Map;
import java.util.Set;
import javax.lang.model.element.Element;
import javax.lang.model.element.Modifier;
import javax.lang.model.element.TypeElement;
import javax.lang.model.type.TypeMirror;
import javax.tools.JavaCompiler;
import javax.tools.StandardJavaFileManager;
import javax.tools.ToolProvider;

/**
 * The rules of LANGUAGE.md, looked for in the tree that the compiler makes of the class, so that layout and comments
 * hide nothing. What a tree can't show (rules 7, 8 and 13, loops that end by what they count) is left to the readers
 * and to the tests that run the class.
 */
public final class LanguageTest {
    private static final Path SOURCE = Path.of("src/main/java/SmokeHall.java");
    private static final Set<Tree.Kind> RULED_OUT = EnumSet.of(
        Tree.Kind.THROW, Tree.Kind.TRY, Tree.Kind.CATCH, Tree.Kind.SYNCHRONIZED, Tree.Kind.ASSERT,
        Tree.Kind.LAMBDA_EXPRESSION, Tree.Kind.MEMBER_REFERENCE, Tree.Kind.PACKAGE, Tree.Kind.ANNOTATION);
    /** Rule 4, as far as a class of whole numbers and rows can need it; a new call is added here, if the rule has it. */
    private static final Map<String, Set<String>> LIBRARY = Map.of(
        "java.lang.Object", Set.of("<init>", "clone"),
        "java.lang.System", Set.of("arraycopy"),
        "java.util.Arrays", Set.of("copyOf", "copyOfRange", "fill"),
        "java.lang.Integer", Set.of("compare", "max", "min", "abs", "bitCount"),
        "java.lang.Long", Set.of("compare", "max", "min", "abs", "bitCount"),
        "java.lang.Math", Set.of("max", "min", "abs", "floorDiv", "floorMod"));
    private static final Set<String> SIMPLE = Set.of("int", "long", "short", "byte", "char", "boolean");
    private static final Set<String> STATIC_ROWS = Set.of("int[]", "long[]", "char[]", "byte[]");

    private static final Map<Element, Set<Element>> CALLS = new LinkedHashMap<>();
    private static final Set<Element> OPEN = new LinkedHashSet<>();
    private static int classes = 0;

    private static void due(String what, boolean holds) {
        Checks.due(what, holds ? 1 : 0, 1);
    }

    private static boolean isOwn(String type) {
        return type.equals("SmokeHall") || type.startsWith("SmokeHall.");
    }

    private static final class Rules extends TreePathScanner<Void, Void> {
        private final Trees trees;
        private final CompilationUnitTree unit;
        private Element method;

        Rules(Trees trees, CompilationUnitTree unit) {
            this.trees = trees;
            this.unit = unit;
        }

        private long line(Tree tree) {
            return unit.getLineMap().getLineNumber(trees.getSourcePositions().getStartPosition(unit, tree));
        }

        private long lastLine(Tree tree) {
            return unit.getLineMap().getLineNumber(trees.getSourcePositions().getEndPosition(unit, tree));
        }

        private Element elementOf(Tree tree) {
            return trees.getElement(TreePath.getPath(unit, tree));
        }

        @Override public Void scan(Tree tree, Void p) {
            if (tree != null && RULED_OUT.contains(tree.getKind())) {
                due("line " + line(tree) + ": no " + tree.getKind(), false);
            }
            return super.scan(tree, p);
        }

        @Override public Void visitImport(ImportTree tree, Void p) {
            due("import " + tree.getQualifiedIdentifier(),
                Set.of("java.util.Arrays", "java.util.ArrayList", "java.util.List").contains(
                    tree.getQualifiedIdentifier().toString()) && !tree.isStatic());
            return null;
        }

        /** Rules 1, 2, 5 and 11. */
        @Override public Void visitClass(ClassTree tree, Void p) {
            classes++;
            String name = tree.getSimpleName().toString();
            Set<Modifier> modifiers = tree.getModifiers().getFlags();
            boolean outer = getCurrentPath().getParentPath().getLeaf() instanceof CompilationUnitTree;
            due(name + " is named", !name.isEmpty());
            due(name + " stands in a file or a class", outer
                || getCurrentPath().getParentPath().getLeaf() instanceof ClassTree);
            due(name + (outer ? " is public and final" : " is static and not public"), outer
                ? modifiers.contains(Modifier.PUBLIC) && modifiers.contains(Modifier.FINAL)
                : modifiers.contains(Modifier.STATIC) && !modifiers.contains(Modifier.PUBLIC)
                    && !modifiers.contains(Modifier.PROTECTED));
            int fields = 0;
            for (Tree member : tree.getMembers()) {
                due(name + " has no initialiser block", !(member instanceof BlockTree));
                if (member instanceof VariableTree field) {
                    boolean isStatic = field.getModifiers().getFlags().contains(Modifier.STATIC);
                    fields += isStatic ? 0 : 1;
                    due(name + "." + field.getName() + " by rule 5", !isStatic || isConstant(field));
                }
            }
            due(name + " has some twenty fields: " + fields, fields <= 20);
            return super.visitClass(tree, p);
        }

        private boolean isConstant(VariableTree field) {
            String type = field.getType().toString();
            boolean row = STATIC_ROWS.contains(type) && field.getInitializer() instanceof NewArrayTree made
                && made.getInitializers() != null;
            boolean plain = Set.of("int", "long", "boolean", "char", "String").contains(type);
            return field.getModifiers().getFlags().contains(Modifier.FINAL) && field.getInitializer() != null
                && (row || plain);
        }

        /** Rules 1, 6 and 11. */
        @Override public Void visitMethod(MethodTree tree, Void p) {
            method = elementOf(tree);
            CALLS.put(method, new LinkedHashSet<>());
            boolean inside = !method.getEnclosingElement().getSimpleName().contentEquals("SmokeHall");
            if (!inside && method.getModifiers().contains(Modifier.PUBLIC)) {
                OPEN.add(method);
            }
            due(tree.getName() + " takes at most seven", tree.getParameters().size() <= 7);
            due(tree.getName() + " declares no exception", tree.getThrows().isEmpty());
            due(tree.getName() + " is short", lastLine(tree) - line(tree) < 60);
            due(tree.getName() + " is no method of Object",
                !Set.of("equals", "hashCode", "toString").contains(tree.getName().toString()));
            if (tree.getReturnType() != null) {
                type("what " + tree.getName() + " answers", trees.getTypeMirror(new TreePath(
                    getCurrentPath(), tree.getReturnType())));
            }
            super.visitMethod(tree, p);
            method = null;
            return null;
        }

        @Override public Void visitVariable(VariableTree tree, Void p) {
            Element element = trees.getElement(getCurrentPath());
            type(tree.getName() + " at line " + line(tree), element.asType());
            return super.visitVariable(tree, p);
        }

        /** Rule 3, as far as this class goes: numbers, rows of them, classes of its own. */
        private void type(String what, TypeMirror mirror) {
            String type = mirror.toString();
            String item = type.replace("[]", "");
            int dimensions = (type.length() - item.length()) / 2;
            due(what + " is " + type, type.equals("void") || (SIMPLE.contains(item) && dimensions <= 2)
                || (isOwn(item) && dimensions <= 1));
        }

        @Override public Void visitMethodInvocation(MethodInvocationTree tree, Void p) {
            called(trees.getElement(new TreePath(getCurrentPath(), tree.getMethodSelect())), tree);
            return super.visitMethodInvocation(tree, p);
        }

        @Override public Void visitNewClass(NewClassTree tree, Void p) {
            due("line " + line(tree) + ": no class without a name", tree.getClassBody() == null);
            called(trees.getElement(getCurrentPath()), tree);
            return super.visitNewClass(tree, p);
        }

        private void called(Element callee, Tree tree) {
            String owner = ((TypeElement) callee.getEnclosingElement()).getQualifiedName().toString();
            if (isOwn(owner)) {
                if (method != null) {
                    CALLS.get(method).add(callee);
                }
                return;
            }
            due("line " + line(tree) + ": " + owner + "." + callee.getSimpleName() + " is in rule 4",
                LIBRARY.getOrDefault(owner, Set.of()).contains(callee.getSimpleName().toString()));
        }

        @Override public Void visitWhileLoop(WhileLoopTree tree, Void p) {
            bound(tree, tree.getCondition());
            return super.visitWhileLoop(tree, p);
        }

        @Override public Void visitDoWhileLoop(DoWhileLoopTree tree, Void p) {
            bound(tree, tree.getCondition());
            return super.visitDoWhileLoop(tree, p);
        }

        @Override public Void visitForLoop(ForLoopTree tree, Void p) {
            bound(tree, tree.getCondition());
            return super.visitForLoop(tree, p);
        }

        /** Rule 9: at least a condition that compares something. */
        private void bound(Tree loop, ExpressionTree condition) {
            due("line " + line(loop) + ": the loop has a bound",
                condition != null && condition.toString().matches("(?s).*[<>].*"));
        }

        /** Rules 6 and 10: texts are joined by StringBuilder; this class has none at all. */
        @Override public Void visitLiteral(LiteralTree tree, Void p) {
            due("line " + line(tree) + ": a text", tree.getKind() != Tree.Kind.STRING_LITERAL);
            return super.visitLiteral(tree, p);
        }

        /** Rule 7, as far as a tree shows it: what divides is a constant, or was held above 0 where it was made. */
        @Override public Void visitBinary(BinaryTree tree, Void p) {
            if (tree.getKind() == Tree.Kind.DIVIDE || tree.getKind() == Tree.Kind.REMAINDER) {
                divisor(tree, tree.getRightOperand());
            }
            return super.visitBinary(tree, p);
        }

        @Override public Void visitCompoundAssignment(CompoundAssignmentTree tree, Void p) {
            if (tree.getKind() == Tree.Kind.DIVIDE_ASSIGNMENT || tree.getKind() == Tree.Kind.REMAINDER_ASSIGNMENT) {
                divisor(tree, tree.getExpression());
            }
            return super.visitCompoundAssignment(tree, p);
        }

        private void divisor(Tree at, ExpressionTree by) {
            String text = by.toString();
            boolean literal = by.getKind() == Tree.Kind.INT_LITERAL && !text.equals("0");
            boolean held = by.getKind() == Tree.Kind.IDENTIFIER && trees.getTree(elementOf(by)) instanceof VariableTree made
                && made.getInitializer() != null && (made.getInitializer().toString().contains("Math.max(1, ")
                || made.getModifiers().getFlags().contains(Modifier.STATIC));
            due("line " + line(at) + ": divides by " + text, literal || held);
        }
    }

    /** How many calls stand open at most; a method that comes round to itself fails, as the class has no need of one. */
    private static int depth(Element method, Map<Element, Integer> known, List<Element> open) {
        if (open.contains(method)) {
            due(method + " comes round to itself by " + open, false);
            return 0;
        }
        if (known.containsKey(method)) {
            return known.get(method);
        }
        open.add(method);
        int deepest = 0;
        for (Element callee : CALLS.getOrDefault(method, Set.of())) {
            deepest = Math.max(deepest, depth(callee, known, open));
        }
        open.remove(open.size() - 1);
        known.put(method, deepest + 1);
        return deepest + 1;
    }

    private static void depths() {
        Map<Element, Integer> known = new HashMap<>();
        for (Element method : OPEN) {
            int deep = depth(method, known, new ArrayList<>());
            due(method + " goes at most eight deep: " + deep, deep <= 8);
        }
        for (Element method : CALLS.keySet()) {
            boolean isPublic = OPEN.contains(method);
            due(method + " bears no public name", isPublic || OPEN.stream().noneMatch(
                open -> open.getSimpleName().equals(method.getSimpleName())
                    && !method.getSimpleName().contentEquals("<init>")));
            due(method + " is used", isPublic || CALLS.values().stream().anyMatch(callees -> callees.contains(method))
                || method.getSimpleName().contentEquals("<init>"));
        }
    }

    public static void main(String[] args) throws Exception {
        String text = Files.readString(SOURCE, StandardCharsets.ISO_8859_1);
        due("signs 1 to 127", text.chars().allMatch(c -> c > 0 && c < 128));
        JavaCompiler compiler = ToolProvider.getSystemJavaCompiler();
        try (StandardJavaFileManager files = compiler.getStandardFileManager(null, null, null)) {
            JavacTask task = (JavacTask) compiler.getTask(null, files, null,
                List.of("-proc:none", "--release", "17"), null, files.getJavaFileObjects(SOURCE));
            Iterable<? extends CompilationUnitTree> units = task.parse();
            task.analyze();
            for (CompilationUnitTree unit : units) {
                new Rules(Trees.instance(task), unit).scan(unit, null);
            }
        }
        due("some twelve classes: " + classes, classes <= 12 && classes >= 1);
        due("31 calls: " + OPEN.size(), OPEN.stream().filter(m -> !m.getSimpleName().contentEquals("<init>")).count() == 31);
        depths();
        Checks.finish("LanguageTest");
    }
}
