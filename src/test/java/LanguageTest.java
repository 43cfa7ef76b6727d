import com.sun.source.tree.BinaryTree;
import com.sun.source.tree.BlockTree;
import com.sun.source.tree.ClassTree;
import com.sun.source.tree.CompilationUnitTree;
import com.sun.source.tree.CompoundAssignmentTree;
import com.sun.source.tree.ExpressionTree;
import com.sun.source.tree.ImportTree;
import com.sun.source.tree.InstanceOfTree;
import com.sun.source.tree.LambdaExpressionTree;
import com.sun.source.tree.LiteralTree;
import com.sun.source.tree.MemberReferenceTree;
import com.sun.source.tree.MethodInvocationTree;
import com.sun.source.tree.MethodTree;
import com.sun.source.tree.NewArrayTree;
import com.sun.source.tree.NewClassTree;
import com.sun.source.tree.SynchronizedTree;
import com.sun.source.tree.ThrowTree;
import com.sun.source.tree.Tree;
import com.sun.source.tree.TryTree;
import com.sun.source.tree.TypeCastTree;
import com.sun.source.tree.VariableTree;
import com.sun.source.util.JavacTask;
import com.sun.source.util.TreePath;
import com.sun.source.util.TreePathScanner;
import com.sun.source.util.Trees;
import java.io.IOException;
import java.nio.file.Files;
import java.nio.file.Path;
import java.util.ArrayDeque;
import java.util.ArrayList;
import java.util.Deque;
import java.util.HashMap;
import java.util.HashSet;
import java.util.List;
import java.util.Map;
import java.util.Set;
import java.util.TreeMap;
import java.util.TreeSet;
import javax.lang.model.element.Element;
import javax.lang.model.element.ElementKind;
import javax.lang.model.element.ExecutableElement;
import javax.lang.model.element.Modifier;
import javax.lang.model.element.TypeElement;
import javax.tools.JavaCompiler;
import javax.tools.StandardJavaFileManager;
import javax.tools.ToolProvider;

/** The rules of LANGUAGE.md that can be seen in the source, read with the compiler's own trees. */
public final class LanguageTest {
    private static final Set<String> LIBRARY = Set.of(
        "java.lang.String.length", "java.lang.String.charAt", "java.lang.System.arraycopy", "java.util.Arrays.fill",
        "java.lang.Math.max", "java.lang.Math.min", "java.lang.Math.floorMod", "java.lang.Integer.bitCount");
    private static final Set<String> EXCEPTIONS = Set.of(
        "IllegalStateException", "IllegalArgumentException", "IndexOutOfBoundsException", "ArithmeticException",
        "UnsupportedOperationException", "NoSuchElementException", "RuntimeException");
    private static final Set<String> PLAIN = Set.of("int", "long", "short", "byte", "char", "boolean", "String",
        "int[]", "long[]", "char[]", "byte[]");
    private static final int DEEPEST = 8;

    private final Due due = new Due();
    private final Map<String, Set<String>> calls = new TreeMap<>();
    private final Set<String> own = new TreeSet<>();

    public static void main(String[] args) throws IOException {
        LanguageTest test = new LanguageTest();
        test.readSource(Path.of(args[0], "src/main/java/GuestView.java"));
        test.depths();
        test.due.finish();
    }

    private void readSource(Path source) throws IOException {
        JavaCompiler compiler = ToolProvider.getSystemJavaCompiler();
        try (StandardJavaFileManager files = compiler.getStandardFileManager(null, null, null)) {
            JavacTask task = (JavacTask) compiler.getTask(null, files, null, List.of("-proc:none"), null,
                files.getJavaFileObjects(source));
            List<CompilationUnitTree> units = new ArrayList<>();
            task.parse().forEach(units::add);
            task.analyze();
            for (CompilationUnitTree unit : units) {
                due.is("a package line", unit.getPackageName() != null, false);
                new Names().scan(unit, null);
                new Look(Trees.instance(task), unit).scan(unit, null);
            }
        }
        due.is("classes in the file above some twelve", own.size() > 12, false);
        for (char sign : Files.readString(source).toCharArray()) {
            if (sign > 126 || (sign < 32 && sign != '\n')) {
                due.is("a sign of the source", sign, ' ');
            }
        }
    }

    /** The longest way of calls, each group of methods that call one another in a ring counting as one: rule 11. */
    private void depths() {
        Map<String, Set<String>> groups = new HashMap<>();
        Map<String, Set<String>> reached = new HashMap<>();
        for (String method : calls.keySet()) {
            reached.put(method, reachedFrom(method));
        }
        for (String method : calls.keySet()) {
            Set<String> group = new TreeSet<>(Set.of(method));
            for (String other : reached.get(method)) {
                if (reached.get(other).contains(method)) {
                    group.add(other);
                }
            }
            groups.put(method, group);
        }
        Map<String, Integer> known = new HashMap<>();
        for (String method : calls.keySet()) {
            due.is("calls below " + method + " go deeper than eight", deepest(method, groups, known) > DEEPEST, false);
        }
    }

    private Set<String> reachedFrom(String method) {
        Set<String> found = new HashSet<>();
        Deque<String> open = new ArrayDeque<>(calls.get(method));
        while (!open.isEmpty()) {
            String next = open.pop();
            if (found.add(next)) {
                open.addAll(calls.get(next));
            }
        }
        return found;
    }

    private int deepest(String method, Map<String, Set<String>> groups, Map<String, Integer> known) {
        Integer had = known.get(method);
        if (had != null) {
            return had;
        }
        int most = 0;
        for (String member : groups.get(method)) {
            for (String next : calls.get(member)) {
                if (!groups.get(method).contains(next)) {
                    most = Math.max(most, deepest(next, groups, known));
                }
            }
        }
        known.put(method, most + 1);
        return most + 1;
    }

    private final class Names extends TreePathScanner<Void, Void> {
        @Override
        public Void visitClass(ClassTree tree, Void none) {
            own.add(tree.getSimpleName().toString());
            return super.visitClass(tree, none);
        }
    }

    private final class Look extends TreePathScanner<Void, Void> {
        private final Trees trees;
        private final CompilationUnitTree unit;

        Look(Trees trees, CompilationUnitTree unit) {
            this.trees = trees;
            this.unit = unit;
        }

        private String place(Tree tree) {
            long at = trees.getSourcePositions().getStartPosition(unit, tree);
            return " in line " + unit.getLineMap().getLineNumber(at);
        }

        private void bar(String what, Tree tree, boolean is) {
            due.is(what + (is ? place(tree) : ""), is, false);
        }

        private MethodTree methodHere() {
            for (TreePath path = getCurrentPath(); path != null; path = path.getParentPath()) {
                if (path.getLeaf() instanceof MethodTree method) {
                    return method;
                }
            }
            return null;
        }

        private String named(ExecutableElement method) {
            StringBuilder b = new StringBuilder();
            b.append(((TypeElement) method.getEnclosingElement()).getQualifiedName()).append('.');
            return b.append(method.getSimpleName()).toString();
        }

        private String shown(ExecutableElement method) {
            return named(method) + method.getParameters().size();
        }

        @Override
        public Void visitImport(ImportTree tree, Void none) {
            String name = tree.getQualifiedIdentifier().toString();
            bar("import " + name, tree, !name.equals("java.util.Arrays") && !name.equals("java.util.NoSuchElementException"));
            return super.visitImport(tree, none);
        }

        @Override
        public Void visitClass(ClassTree tree, Void none) {
            int fields = 0;
            for (Tree member : tree.getMembers()) {
                if (member instanceof VariableTree field && !field.getModifiers().getFlags().contains(Modifier.STATIC)) {
                    fields++;
                }
                bar("a static block", member, member instanceof BlockTree);
            }
            bar("fields of " + tree.getSimpleName() + " above twenty", tree, fields > 20);
            if (!tree.getSimpleName().contentEquals("GuestView")) {
                Set<Modifier> flags = tree.getModifiers().getFlags();
                bar("class inside not static", tree, !flags.contains(Modifier.STATIC));
                bar("class inside shown", tree, flags.contains(Modifier.PUBLIC) || flags.contains(Modifier.PROTECTED));
            }
            return super.visitClass(tree, none);
        }

        @Override
        public Void visitMethod(MethodTree tree, Void none) {
            ExecutableElement method = (ExecutableElement) trees.getElement(getCurrentPath());
            calls.computeIfAbsent(shown(method), k -> new TreeSet<>());
            bar("parameters above seven", tree, tree.getParameters().size() > 7);
            long from = trees.getSourcePositions().getStartPosition(unit, tree);
            long to = trees.getSourcePositions().getEndPosition(unit, tree);
            long lines = unit.getLineMap().getLineNumber(Math.max(0, to)) - unit.getLineMap().getLineNumber(Math.max(0, from));
            bar("lines of " + tree.getName() + " above sixty", tree, to >= 0 && lines > 60);
            return super.visitMethod(tree, none);
        }

        @Override
        public Void visitVariable(VariableTree tree, Void none) {
            String type = tree.getType() == null ? "var" : tree.getType().toString();
            String part = type.endsWith("[]") ? type.substring(0, type.length() - 2) : type;
            bar("type " + type, tree, !PLAIN.contains(type) && !own.contains(part));
            Element element = trees.getElement(getCurrentPath());
            if (element != null && element.getKind() == ElementKind.FIELD && element.getModifiers().contains(Modifier.STATIC)) {
                bar("static " + tree.getName(), tree, !element.getModifiers().contains(Modifier.FINAL) || !PLAIN.contains(type));
            }
            return super.visitVariable(tree, none);
        }

        @Override
        public Void visitMethodInvocation(MethodInvocationTree tree, Void none) {
            Element element = trees.getElement(new TreePath(getCurrentPath(), tree.getMethodSelect()));
            MethodTree from = methodHere();
            if (element instanceof ExecutableElement method && from != null && method.getKind() == ElementKind.METHOD) {
                String name = named(method);
                if (name.startsWith("GuestView")) {
                    ExecutableElement caller = (ExecutableElement) trees.getElement(trees.getPath(unit, from));
                    calls.computeIfAbsent(shown(caller), k -> new TreeSet<>()).add(shown(method));
                } else {
                    bar("call of " + name, tree, !LIBRARY.contains(name));
                }
            }
            return super.visitMethodInvocation(tree, none);
        }

        @Override
        public Void visitNewClass(NewClassTree tree, Void none) {
            MethodTree method = methodHere();
            bar("an anonymous class", tree, tree.getClassBody() != null);
            boolean thrown = getCurrentPath().getParentPath().getLeaf() instanceof ThrowTree;
            bar("a call makes an object", tree, method != null && method.getReturnType() != null && !thrown);
            return super.visitNewClass(tree, none);
        }

        @Override
        public Void visitNewArray(NewArrayTree tree, Void none) {
            MethodTree method = methodHere();
            bar("a call makes a row", tree, method != null && method.getReturnType() != null);
            return super.visitNewArray(tree, none);
        }

        @Override
        public Void visitThrow(ThrowTree tree, Void none) {
            MethodTree method = methodHere();
            boolean fine = tree.getExpression() instanceof NewClassTree made && EXCEPTIONS.contains(made.getIdentifier().toString())
                && (made.getArguments().isEmpty() || made.getArguments().get(0) instanceof LiteralTree);
            bar("another throw", tree, !fine);
            bar("a throw in a constructor", tree, method == null || method.getReturnType() == null);
            return super.visitThrow(tree, none);
        }

        @Override
        public Void visitBinary(BinaryTree tree, Void none) {
            if (tree.getKind() == Tree.Kind.PLUS) {
                bar("texts joined by +", tree, isText(tree.getLeftOperand()) || isText(tree.getRightOperand()));
            }
            if (tree.getKind() == Tree.Kind.EQUAL_TO || tree.getKind() == Tree.Kind.NOT_EQUAL_TO) {
                bar("texts compared by ==", tree, isText(tree.getLeftOperand()) && isText(tree.getRightOperand()));
            }
            return super.visitBinary(tree, none);
        }

        @Override
        public Void visitCompoundAssignment(CompoundAssignmentTree tree, Void none) {
            bar("texts joined by +=", tree, isText(tree.getVariable()));
            return super.visitCompoundAssignment(tree, none);
        }

        private boolean isText(ExpressionTree tree) {
            return "java.lang.String".equals(String.valueOf(trees.getTypeMirror(new TreePath(getCurrentPath(), tree))));
        }

        @Override
        public Void visitLambdaExpression(LambdaExpressionTree tree, Void none) {
            bar("a lambda", tree, true);
            return null;
        }

        @Override
        public Void visitMemberReference(MemberReferenceTree tree, Void none) {
            bar("a method reference", tree, true);
            return null;
        }

        @Override
        public Void visitTry(TryTree tree, Void none) {
            bar("a try", tree, true);
            return null;
        }

        @Override
        public Void visitSynchronized(SynchronizedTree tree, Void none) {
            bar("synchronized", tree, true);
            return null;
        }

        @Override
        public Void visitInstanceOf(InstanceOfTree tree, Void none) {
            bar("instanceof, of which none is needed", tree, true);
            return null;
        }

        @Override
        public Void visitTypeCast(TypeCastTree tree, Void none) {
            bar("a cast but to int", tree, !tree.getType().toString().equals("int"));
            return super.visitTypeCast(tree, none);
        }
    }
}
