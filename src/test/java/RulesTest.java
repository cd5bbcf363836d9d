import com.sun.source.tree.AssertTree;
import com.sun.source.tree.BinaryTree;
import com.sun.source.tree.BlockTree;
import com.sun.source.tree.CatchTree;
import com.sun.source.tree.ClassTree;
import com.sun.source.tree.CompilationUnitTree;
import com.sun.source.tree.CompoundAssignmentTree;
import com.sun.source.tree.DoWhileLoopTree;
import com.sun.source.tree.ForLoopTree;
import com.sun.source.tree.ImportTree;
import com.sun.source.tree.LambdaExpressionTree;
import com.sun.source.tree.LiteralTree;
import com.sun.source.tree.MemberReferenceTree;
import com.sun.source.tree.MethodInvocationTree;
import com.sun.source.tree.MethodTree;
import com.sun.source.tree.NewClassTree;
import com.sun.source.tree.SynchronizedTree;
import com.sun.source.tree.ThrowTree;
import com.sun.source.tree.Tree;
import com.sun.source.tree.TryTree;
import com.sun.source.tree.VariableTree;
import com.sun.source.tree.WhileLoopTree;
import com.sun.source.util.JavacTask;
import com.sun.source.util.SourcePositions;
import com.sun.source.util.TreePath;
import com.sun.source.util.TreePathScanner;
import com.sun.source.util.Trees;
import java.io.File;
import java.io.IOException;
import java.util.List;
import java.util.Map;
import java.util.Set;
import java.util.TreeMap;
import java.util.TreeSet;
import javax.lang.model.element.Element;
import javax.lang.model.element.Modifier;
import javax.tools.JavaCompiler;
import javax.tools.StandardJavaFileManager;
import javax.tools.ToolProvider;

/** What can be seen in the text of the class of the rules of ../shared/LANGUAGE.md, each named by its number. */
public final class RulesTest {
    private static final File SOURCE = new File("src/main/java/ExactTurtle.java");
    private static final Set<String> EXCEPTIONS = Set.of("IllegalStateException", "IllegalArgumentException",
            "IndexOutOfBoundsException", "ArithmeticException", "UnsupportedOperationException", "NoSuchElementException",
            "RuntimeException");
    private static final Set<String> LIBRARY = Set.of("java.util.Arrays.copyOf", "java.util.Arrays.copyOfRange",
            "java.util.Arrays.fill", "java.lang.System.arraycopy", "java.lang.Math.min", "java.lang.Math.max",
            "java.lang.Math.abs", "java.lang.Math.floorMod", "java.lang.Math.floorDiv", "java.lang.Object.<init>");
    private static final Set<String> SIMPLE_TYPES = Set.of("int", "long", "short", "byte", "char", "boolean", "void", "String");
    private static final int MOST_CLASSES = 12;
    private static final int MOST_FIELDS = 20;
    private static final int MOST_PARAMETERS = 7;
    private static final int MOST_LINES = 60;
    private static final int DEEPEST_CALL = 8;

    public static void main(String[] args) throws IOException {
        JavaCompiler compiler = ToolProvider.getSystemJavaCompiler();
        try (StandardJavaFileManager files = compiler.getStandardFileManager(null, null, null)) {
            JavacTask task = (JavacTask) compiler.getTask(null, files, null, List.of("-proc:none", "-implicit:none"), null,
                    files.getJavaFileObjects(SOURCE));
            CompilationUnitTree unit = task.parse().iterator().next();
            task.analyze();
            Scan scan = new Scan(unit, Trees.instance(task));
            scan.scan(unit, null);
            scan.end();
        }
        Check.end();
    }

    private static final class Scan extends TreePathScanner<Void, Void> {
        private final CompilationUnitTree unit;
        private final Trees trees;
        private final SourcePositions positions;
        private final Set<String> classes = new TreeSet<>();
        private final Map<String, Set<String>> calls = new TreeMap<>();
        private final Set<String> hidden = new TreeSet<>();
        private final Set<String> fixed = new TreeSet<>();
        private String method = "";

        Scan(CompilationUnitTree unit, Trees trees) {
            this.unit = unit;
            this.trees = trees;
            this.positions = trees.getSourcePositions();
        }

        private void rule(int number, String what, Tree tree, boolean kept) {
            long line = unit.getLineMap().getLineNumber(positions.getStartPosition(unit, tree));
            Check.same("rule " + number + ", line " + line + ": " + what, true, () -> kept);
        }

        private Element element(Tree tree) {
            return trees.getElement(new TreePath(getCurrentPath(), tree));
        }

        private String type(Tree tree) {
            return String.valueOf(trees.getTypeMirror(new TreePath(getCurrentPath(), tree)));
        }

        private static String name(Element method) {
            return method.getEnclosingElement() + "." + method;
        }

        void end() {
            rule(1, "no package", unit, unit.getPackageName() == null);
            rule(11, "some twelve classes", unit, classes.size() <= MOST_CLASSES);
            for (String start : calls.keySet()) {
                Set<String> round = reached(start);
                if (round.contains(start)) {
                    rule(8, "recursion of " + start + " is one of private methods", unit, hidden.contains(start));
                }
                boolean callsItself = calls.get(start).contains(start);
                rule(8, start + " calls itself only if it is static", unit, !callsItself || fixed.contains(start));
                int depth = depth(start, Set.of());
                rule(11, start + " opens " + depth + " calls", unit, depth <= DEEPEST_CALL);
            }
        }

        private Set<String> reached(String start) {
            Set<String> found = new TreeSet<>(calls.get(start));
            for (int before = -1; before < found.size();) {
                before = found.size();
                for (String one : List.copyOf(found)) {
                    found.addAll(calls.getOrDefault(one, Set.of()));
                }
            }
            return found;
        }

        /** How many methods stand open at once, where none of them is open twice. */
        private int depth(String start, Set<String> open) {
            Set<String> now = new TreeSet<>(open);
            now.add(start);
            int deepest = 0;
            for (String next : calls.getOrDefault(start, Set.of())) {
                if (!now.contains(next)) {
                    deepest = Math.max(deepest, depth(next, now));
                }
            }
            return deepest + 1;
        }

        @Override
        public Void visitImport(ImportTree tree, Void none) {
            String name = tree.getQualifiedIdentifier().toString();
            Set<String> known = Set.of("java.util.ArrayList", "java.util.Arrays", "java.util.Iterator", "java.util.List",
                    "java.util.NoSuchElementException");
            rule(4, "import of " + name, tree, known.contains(name));
            return super.visitImport(tree, none);
        }

        @Override
        public Void visitClass(ClassTree tree, Void none) {
            classes.add(tree.getSimpleName().toString());
            Set<Modifier> modifiers = tree.getModifiers().getFlags();
            boolean outermost = getCurrentPath().getParentPath().getLeaf() == unit;
            rule(outermost ? 1 : 2, "modifiers of " + tree.getSimpleName(), tree, outermost
                    ? modifiers.contains(Modifier.PUBLIC) && modifiers.contains(Modifier.FINAL)
                    : modifiers.contains(Modifier.STATIC) && !modifiers.contains(Modifier.PUBLIC)
                            && !modifiers.contains(Modifier.PROTECTED));
            int fields = 0;
            for (Tree member : tree.getMembers()) {
                rule(5, "no initialiser blocks", member, !(member instanceof BlockTree));
                boolean field = member instanceof VariableTree;
                if (field && !((VariableTree) member).getModifiers().getFlags().contains(Modifier.STATIC)) {
                    fields++;
                }
            }
            rule(11, fields + " fields of " + tree.getSimpleName(), tree, fields <= MOST_FIELDS);
            return super.visitClass(tree, none);
        }

        @Override
        public Void visitVariable(VariableTree tree, Void none) {
            Set<Modifier> modifiers = tree.getModifiers().getFlags();
            if (modifiers.contains(Modifier.STATIC)) {
                rule(5, "static " + tree.getName() + " is final", tree, modifiers.contains(Modifier.FINAL));
                rule(5, "static " + tree.getName() + " is a constant", tree,
                        Set.of("int", "long", "boolean", "char", "String", "int[]", "long[]", "char[]", "byte[]")
                                .contains(tree.getType().toString()));
            }
            if (getCurrentPath().getParentPath().getLeaf() instanceof CatchTree) {
                return super.visitVariable(tree, none);
            }
            ruleOfType(tree, tree.getType().toString());
            return super.visitVariable(tree, none);
        }

        private void ruleOfType(Tree tree, String type) {
            String element = type.endsWith("[]") ? type.substring(0, type.length() - 2) : type;
            boolean known = SIMPLE_TYPES.contains(element) || classes.contains(element)
                    || element.matches("StringBuilder|Integer|double|float|(ArrayList|List)<\\w+>|(int|long)\\[\\]");
            // A class may be used above the line where it stands.
            boolean later = element.matches("[A-Z][A-Za-z]*") && hasClass(element);
            rule(3, "type " + type, tree, known || later);
        }

        private boolean hasClass(String name) {
            for (Tree outermost : unit.getTypeDecls()) {
                for (Tree member : ((ClassTree) outermost).getMembers()) {
                    if (member instanceof ClassTree inside && inside.getSimpleName().contentEquals(name)) {
                        return true;
                    }
                }
            }
            return false;
        }

        @Override
        public Void visitMethod(MethodTree tree, Void none) {
            Element self = trees.getElement(getCurrentPath());
            method = name(self);
            calls.putIfAbsent(method, new TreeSet<>());
            if (tree.getModifiers().getFlags().contains(Modifier.PRIVATE)) {
                hidden.add(method);
            }
            if (tree.getModifiers().getFlags().contains(Modifier.STATIC)) {
                fixed.add(method);
            }
            rule(11, "parameters of " + method, tree, tree.getParameters().size() <= MOST_PARAMETERS);
            long first = unit.getLineMap().getLineNumber(positions.getStartPosition(unit, tree));
            long last = unit.getLineMap().getLineNumber(Math.max(positions.getEndPosition(unit, tree), 1));
            rule(11, "lines of " + method, tree, last - first < MOST_LINES);
            rule(6, "no " + method + " of its own", tree,
                    !Set.of("equals", "hashCode", "toString").contains(tree.getName().toString()));
            if (tree.getReturnType() != null) {
                ruleOfType(tree, tree.getReturnType().toString());
            }
            super.visitMethod(tree, none);
            method = "";
            return null;
        }

        @Override
        public Void visitMethodInvocation(MethodInvocationTree tree, Void none) {
            Element called = element(tree.getMethodSelect());
            String owner = String.valueOf(called.getEnclosingElement());
            if (owner.startsWith("ExactTurtle")) {
                calls.computeIfAbsent(method, key -> new TreeSet<>()).add(name(called));
            } else {
                String name = owner + "." + called.getSimpleName();
                rule(4, "call of " + name, tree, LIBRARY.contains(name) || owner.equals("java.lang.StringBuilder"));
            }
            return super.visitMethodInvocation(tree, none);
        }

        @Override
        public Void visitNewClass(NewClassTree tree, Void none) {
            String made = type(tree);
            boolean inside = made.startsWith("ExactTurtle");
            boolean thrown = getCurrentPath().getParentPath().getLeaf() instanceof ThrowTree;
            rule(4, "new " + made, tree, inside || thrown || made.equals("java.lang.StringBuilder"));
            rule(2, "no anonymous class", tree, tree.getClassBody() == null);
            if (inside && !method.isEmpty()) {
                calls.get(method).add(name(trees.getElement(getCurrentPath())));
            }
            return super.visitNewClass(tree, none);
        }

        @Override
        public Void visitThrow(ThrowTree tree, Void none) {
            boolean plain = tree.getExpression() instanceof NewClassTree made
                    && EXCEPTIONS.contains(made.getIdentifier().toString()) && made.getArguments().size() <= 1
                    && (made.getArguments().isEmpty() || made.getArguments().get(0) instanceof LiteralTree);
            rule(6, "a plain throw", tree, plain);
            rule(6, "no throw in a constructor", tree, !method.isEmpty() && !method.contains("ExactTurtle("));
            return super.visitThrow(tree, none);
        }

        @Override
        public Void visitBinary(BinaryTree tree, Void none) {
            boolean ofText = (type(tree.getLeftOperand()) + type(tree.getRightOperand())).contains("java.lang.");
            rule(10, "no " + tree.getKind() + " of texts", tree, !ofText);
            return super.visitBinary(tree, none);
        }

        @Override
        public Void visitCompoundAssignment(CompoundAssignmentTree tree, Void none) {
            rule(10, "no joining of texts", tree, !type(tree.getVariable()).contains("java.lang."));
            return super.visitCompoundAssignment(tree, none);
        }

        @Override
        public Void visitForLoop(ForLoopTree tree, Void none) {
            rule(9, "an end of a loop", tree, tree.getCondition() instanceof BinaryTree && !tree.getUpdate().isEmpty());
            return super.visitForLoop(tree, none);
        }

        @Override
        public Void visitWhileLoop(WhileLoopTree tree, Void none) {
            rule(9, "an end of a loop", tree, !tree.getCondition().toString().equals("(true)"));
            return super.visitWhileLoop(tree, none);
        }

        @Override
        public Void visitDoWhileLoop(DoWhileLoopTree tree, Void none) {
            rule(9, "an end of a loop", tree, !tree.getCondition().toString().equals("(true)"));
            return super.visitDoWhileLoop(tree, none);
        }

        @Override
        public Void visitTry(TryTree tree, Void none) {
            rule(6, "no finally and no resources", tree, tree.getFinallyBlock() == null && tree.getResources().isEmpty());
            return super.visitTry(tree, none);
        }

        @Override
        public Void visitLambdaExpression(LambdaExpressionTree tree, Void none) {
            rule(2, "no lambda", tree, false);
            return super.visitLambdaExpression(tree, none);
        }

        @Override
        public Void visitMemberReference(MemberReferenceTree tree, Void none) {
            rule(2, "no method reference", tree, false);
            return super.visitMemberReference(tree, none);
        }

        @Override
        public Void visitSynchronized(SynchronizedTree tree, Void none) {
            rule(6, "no synchronized", tree, false);
            return super.visitSynchronized(tree, none);
        }

        @Override
        public Void visitAssert(AssertTree tree, Void none) {
            rule(6, "no assert", tree, false);
            return super.visitAssert(tree, none);
        }
    }
}
