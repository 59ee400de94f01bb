import com.sun.source.tree.AssertTree;
import com.sun.source.tree.BinaryTree;
import com.sun.source.tree.CatchTree;
import com.sun.source.tree.ClassTree;
import com.sun.source.tree.CompilationUnitTree;
import com.sun.source.tree.ExpressionTree;
import com.sun.source.tree.IdentifierTree;
import com.sun.source.tree.LambdaExpressionTree;
import com.sun.source.tree.LiteralTree;
import com.sun.source.tree.MemberReferenceTree;
import com.sun.source.tree.MemberSelectTree;
import com.sun.source.tree.MethodInvocationTree;
import com.sun.source.tree.MethodTree;
import com.sun.source.tree.NewClassTree;
import com.sun.source.tree.SynchronizedTree;
import com.sun.source.tree.ThrowTree;
import com.sun.source.tree.Tree;
import com.sun.source.tree.TryTree;
import com.sun.source.tree.VariableTree;
import com.sun.source.util.JavacTask;
import com.sun.source.util.SourcePositions;
import com.sun.source.util.TreeScanner;
import com.sun.source.util.Trees;
import java.io.File;
import java.util.List;
import java.util.Map;
import java.util.Set;
import java.util.TreeMap;
import java.util.TreeSet;
import javax.lang.model.element.Modifier;
import javax.tools.JavaCompiler;
import javax.tools.StandardJavaFileManager;
import javax.tools.ToolProvider;

/** What of LANGUAGE.md a look at the source can tell; the number of the rule stands ahead of each finding. */
public final class LanguageTest {
    private static final Set<String> LIBRARY = Set.of("Math.min", "Math.max", "System.arraycopy");
    private static final Set<String> THROWN = Set.of("IllegalStateException", "IllegalArgumentException",
            "IndexOutOfBoundsException");
    private static final int MOST_LINES = 60;
    private static final int MOST_PARAMETERS = 7;
    private static final int MOST_CLASSES = 12;
    private static final int MOST_FIELDS = 20;
    private static final int MOST_DEPTH = 8;

    private static int classes = 0;
    private static final Map<String, Set<String>> calls = new TreeMap<>();

    private static final class Look extends TreeScanner<Void, String> {
        private final CompilationUnitTree unit;
        private final SourcePositions positions;
        private Set<String> ownFields = Set.of();
        private Set<String> locals = Set.of();

        Look(CompilationUnitTree unit, SourcePositions positions) {
            this.unit = unit;
            this.positions = positions;
        }

        private long line(Tree tree, boolean isEnd) {
            long at = isEnd ? positions.getEndPosition(unit, tree) : positions.getStartPosition(unit, tree);
            return unit.getLineMap().getLineNumber(at);
        }

        private void found(String what, Tree tree) {
            Due.fail("rule " + what + ", line " + line(tree, false));
        }

        @Override
        public Void visitClass(ClassTree tree, String method) {
            classes++;
            Set<String> outerFields = ownFields;
            ownFields = new TreeSet<>();
            int fields = 0;
            for (Tree member : tree.getMembers()) {
                if (member instanceof VariableTree) {
                    Set<Modifier> modifiers = ((VariableTree) member).getModifiers().getFlags();
                    boolean isStatic = modifiers.contains(Modifier.STATIC);
                    fields += isStatic ? 0 : 1;
                    if (!isStatic) {
                        ownFields.add(((VariableTree) member).getName().toString());
                    }
                    if (isStatic && !modifiers.contains(Modifier.FINAL)) {
                        found("5: a static field that is not final", member);
                    }
                } else if (!(member instanceof MethodTree) && !(member instanceof ClassTree)) {
                    found("5: an initialiser block", member);
                }
            }
            Due.is("rule 11: fields of " + tree.getSimpleName(), fields <= MOST_FIELDS, true);
            super.visitClass(tree, method);
            ownFields = outerFields;
            return null;
        }

        @Override
        public Void visitVariable(VariableTree tree, String method) {
            if (method != null) {
                locals.add(tree.getName().toString());
            }
            return super.visitVariable(tree, method);
        }

        /** A constructor's arguments for others, its own parameters and variables aside. */
        private void lookForHandedOut(List<? extends ExpressionTree> arguments, String method) {
            for (ExpressionTree argument : arguments) {
                String handed = argument.toString();
                boolean isOwn = handed.equals("this") || handed.startsWith("this.")
                        || ownFields.contains(handed) && !locals.contains(handed);
                if (isOwn && "<init>".equals(method)) {
                    found("12: a constructor hands out " + handed, argument);
                }
            }
        }

        @Override
        public Void visitNewClass(NewClassTree tree, String method) {
            lookForHandedOut(tree.getArguments(), method);
            return super.visitNewClass(tree, method);
        }

        @Override
        public Void visitMethod(MethodTree tree, String method) {
            String name = tree.getName().toString();
            locals = new TreeSet<>();
            calls.computeIfAbsent(name, k -> new TreeSet<>());
            long lines = line(tree, true) - line(tree, false) + 1;
            Due.is("rule 11: lines of " + name, lines <= MOST_LINES, true);
            Due.is("rule 11: parameters of " + name, tree.getParameters().size() <= MOST_PARAMETERS, true);
            return super.visitMethod(tree, name);
        }

        @Override
        public Void visitMethodInvocation(MethodInvocationTree tree, String method) {
            lookForHandedOut(tree.getArguments(), method);
            if (method != null) {
                ExpressionTree called = tree.getMethodSelect();
                String name = called instanceof MemberSelectTree
                        ? ((MemberSelectTree) called).getIdentifier().toString() : called.toString();
                calls.get(method).add(LIBRARY.contains(called.toString()) ? called.toString() : name);
            }
            return super.visitMethodInvocation(tree, method);
        }

        @Override
        public Void visitThrow(ThrowTree tree, String method) {
            ExpressionTree thrown = tree.getExpression();
            if (!(thrown instanceof NewClassTree)) {
                found("6: a throw of what is not made there", tree);
            } else {
                NewClassTree made = (NewClassTree) thrown;
                boolean isFine = THROWN.contains(made.getIdentifier().toString());
                for (ExpressionTree argument : made.getArguments()) {
                    isFine &= argument instanceof LiteralTree;
                }
                if (!isFine) {
                    found("6: a throw of another form", tree);
                }
            }
            if ("<init>".equals(method)) {
                found("6: a throw in a constructor", tree);
            }
            return super.visitThrow(tree, method);
        }

        @Override
        public Void visitTry(TryTree tree, String method) {
            found("6: the class needs no try", tree);
            return super.visitTry(tree, method);
        }

        @Override
        public Void visitCatch(CatchTree tree, String method) {
            found("6: the class needs no catch", tree);
            return super.visitCatch(tree, method);
        }

        @Override
        public Void visitLambdaExpression(LambdaExpressionTree tree, String method) {
            found("2: a lambda", tree);
            return super.visitLambdaExpression(tree, method);
        }

        @Override
        public Void visitMemberReference(MemberReferenceTree tree, String method) {
            found("2: a method reference", tree);
            return super.visitMemberReference(tree, method);
        }

        @Override
        public Void visitSynchronized(SynchronizedTree tree, String method) {
            found("6: synchronized", tree);
            return super.visitSynchronized(tree, method);
        }

        @Override
        public Void visitAssert(AssertTree tree, String method) {
            found("6: assert", tree);
            return super.visitAssert(tree, method);
        }

        @Override
        public Void visitBinary(BinaryTree tree, String method) {
            boolean isDivision = tree.getKind() == Tree.Kind.DIVIDE || tree.getKind() == Tree.Kind.REMAINDER;
            ExpressionTree right = tree.getRightOperand();
            boolean isConstant = right instanceof LiteralTree
                    || right instanceof IdentifierTree && right.toString().equals(right.toString().toUpperCase());
            if (isDivision && !isConstant) {
                found("7: a divisor that is no constant", tree);
            }
            if (tree.getKind() == Tree.Kind.PLUS && right.getKind() == Tree.Kind.STRING_LITERAL) {
                found("10: texts joined by +", tree);
            }
            return super.visitBinary(tree, method);
        }
    }

    private static int depth(String name, List<String> open) {
        if (open.contains(name)) {
            Due.fail("rule 8: " + name + " calls itself, by " + open);
            return 0;
        }
        List<String> opened = new java.util.ArrayList<>(open);
        opened.add(name);
        int deepest = 0;
        for (String called : calls.get(name)) {
            if (calls.containsKey(called)) {
                deepest = Math.max(deepest, depth(called, opened));
            } else if (!LIBRARY.contains(called)) {
                Due.fail("rule 4: " + name + " calls " + called);
            }
        }
        return deepest + 1;
    }

    public static void main(String[] args) throws java.io.IOException {
        JavaCompiler compiler = ToolProvider.getSystemJavaCompiler();
        StandardJavaFileManager files = compiler.getStandardFileManager(null, null, null);
        JavacTask task = (JavacTask) compiler.getTask(null, files, null, null, null,
                files.getJavaFileObjects(new File(args[0])));
        SourcePositions positions = Trees.instance(task).getSourcePositions();
        for (CompilationUnitTree unit : task.parse()) {
            Due.is("rule 3: imports", unit.getImports().size(), 0);
            Due.is("rule 1: a package line", unit.getPackageName() != null, false);
            new Look(unit, positions).scan(unit, null);
        }
        Due.is("rule 11: classes", classes <= MOST_CLASSES, true);
        for (String name : calls.keySet()) {
            int deepest = depth(name, List.of());
            Due.is("rule 11: calls below " + name + " are " + deepest, deepest <= MOST_DEPTH, true);
        }
        Due.end("LanguageTest");
    }
}
