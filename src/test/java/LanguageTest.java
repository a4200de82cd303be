import com.sun.source.tree.AssertTree;
import com.sun.source.tree.ClassTree;
import com.sun.source.tree.CompilationUnitTree;
import com.sun.source.tree.ExpressionTree;
import com.sun.source.tree.ImportTree;
import com.sun.source.tree.LambdaExpressionTree;
import com.sun.source.tree.LiteralTree;
import com.sun.source.tree.MemberReferenceTree;
import com.sun.source.tree.MethodInvocationTree;
import com.sun.source.tree.MethodTree;
import com.sun.source.tree.NewClassTree;
import com.sun.source.tree.SynchronizedTree;
import com.sun.source.tree.ThrowTree;
import com.sun.source.tree.Tree;
import com.sun.source.tree.TryTree;
import com.sun.source.tree.VariableTree;
import com.sun.source.util.JavacTask;
import com.sun.source.util.SourcePositions;
import com.sun.source.util.TreePath;
import com.sun.source.util.TreePathScanner;
import com.sun.source.util.Trees;
import java.nio.file.Path;
import java.util.List;
import java.util.Map;
import java.util.Set;
import java.util.TreeMap;
import java.util.TreeSet;
import javax.lang.model.element.Element;
import javax.lang.model.element.ElementKind;
import javax.lang.model.element.ExecutableElement;
import javax.lang.model.element.Modifier;
import javax.lang.model.element.TypeElement;
import javax.tools.JavaCompiler;
import javax.tools.StandardJavaFileManager;
import javax.tools.ToolProvider;

/**
 * What the compiler's tree of RangeCodes.java can tell of LANGUAGE.md: rules 2, 4, 5, 6, 8, 11 (rule
 * 1 is FaceTest's). It is narrower than the rules where the class needs less of them: no recursion,
 * no try, and of the library only what it uses now.
 */
public final class LanguageTest {
    private static final int DEEPEST = 8;
    private static final int MOST_LINES = 60;
    private static final int MOST_PARAMETERS = 7;
    private static final int MOST_CLASSES = 12;
    private static final Set<String> LIBRARY = Set.of(
        "java.lang.Object.<init>", "java.lang.String.length", "java.lang.String.charAt", "java.lang.Integer.bitCount",
        "java.lang.Math.max", "java.lang.Math.min", "java.lang.Math.floorDiv", "java.lang.System.arraycopy",
        "java.util.Arrays.fill", "java.util.NoSuchElementException.<init>");
    private static final Set<String> IMPORTS = Set.of("java.util.Arrays", "java.util.NoSuchElementException");

    private static int wrong = 0;

    public static void main(String[] args) throws Exception {
        String file = args.length > 0 ? args[0] : "src/main/java/RangeCodes.java";
        JavaCompiler compiler = ToolProvider.getSystemJavaCompiler();
        try (StandardJavaFileManager files = compiler.getStandardFileManager(null, null, null)) {
            JavacTask task = (JavacTask) compiler.getTask(null, files, null, List.of("-proc:none"), null,
                files.getJavaFileObjects(Path.of(file)));
            CompilationUnitTree unit = task.parse().iterator().next();
            task.analyze();
            Look look = new Look(Trees.instance(task), unit);
            look.scan(unit, null);
            look.depths();
            look.sizes();
        }
        System.out.println(wrong == 0 ? "the rules hold" : wrong + " places outside the rules");
        if (wrong != 0) {
            System.exit(1);
        }
    }

    private static void refuse(int rule, String what) {
        wrong++;
        System.out.println("rule " + rule + ": " + what);
    }

    private static final class Look extends TreePathScanner<Void, Void> {
        final Trees trees;
        final CompilationUnitTree unit;
        final Map<String, Set<String>> calls = new TreeMap<>();
        final Map<String, Integer> depths = new TreeMap<>();
        String method = "";
        int classes = 0;
        int looked = 0;

        Look(Trees trees, CompilationUnitTree unit) {
            this.trees = trees;
            this.unit = unit;
        }

        long line(long position) {
            return unit.getLineMap().getLineNumber(position);
        }

        String place(Tree tree) {
            return "line " + line(trees.getSourcePositions().getStartPosition(unit, tree));
        }

        static String nameOf(Element element) {
            return ((TypeElement) element.getEnclosingElement()).getQualifiedName() + "." + element;
        }

        @Override
        public Void visitImport(ImportTree tree, Void none) {
            if (!IMPORTS.contains(tree.getQualifiedIdentifier().toString())) {
                refuse(4, place(tree) + ": " + tree);
            }
            return super.visitImport(tree, none);
        }

        @Override
        public Void visitClass(ClassTree tree, Void none) {
            classes++;
            for (Tree member : tree.getMembers()) {
                if (member.getKind() == Tree.Kind.BLOCK) {
                    refuse(5, place(member) + ": an initialiser block");
                }
            }
            Element parent = trees.getElement(getCurrentPath().getParentPath());
            boolean outer = parent == null || parent.getKind() == ElementKind.PACKAGE;
            if (!outer && !tree.getModifiers().getFlags().contains(Modifier.STATIC)) {
                refuse(2, place(tree) + ": a class that is not static");
            }
            return super.visitClass(tree, none);
        }

        @Override
        public Void visitMethod(MethodTree tree, Void none) {
            SourcePositions positions = trees.getSourcePositions();
            method = nameOf(trees.getElement(getCurrentPath()));
            calls.putIfAbsent(method, new TreeSet<>());
            if (tree.getParameters().size() > MOST_PARAMETERS) {
                refuse(11, method + " has too many parameters");
            }
            long end = positions.getEndPosition(unit, tree);
            if (end >= 0 && line(end) - line(positions.getStartPosition(unit, tree)) >= MOST_LINES) {
                refuse(11, method + " is too long");
            }
            return super.visitMethod(tree, none);
        }

        @Override
        public Void visitVariable(VariableTree tree, Void none) {
            Element element = trees.getElement(getCurrentPath());
            Set<Modifier> flags = tree.getModifiers().getFlags();
            if (element != null && element.getKind() == ElementKind.FIELD) {
                method = "the fields of " + element.getEnclosingElement();
                calls.putIfAbsent(method, new TreeSet<>());
                if (flags.contains(Modifier.STATIC) && !flags.contains(Modifier.FINAL)) {
                    refuse(5, place(tree) + ": static, not final");
                }
            }
            return super.visitVariable(tree, none);
        }

        void call(Tree tree, TreePath path) {
            Element element = trees.getElement(path);
            if (!(element instanceof ExecutableElement)) {
                refuse(4, place(tree) + ": not known: " + tree);
                return;
            }
            looked++;
            TypeElement owner = (TypeElement) element.getEnclosingElement();
            String called = owner.getQualifiedName() + "." + element.getSimpleName();
            if (owner.getQualifiedName().toString().startsWith("RangeCodes")) {
                calls.get(method).add(nameOf(element));
            } else if (!LIBRARY.contains(called)) {
                refuse(4, place(tree) + ": " + called);
            }
        }

        @Override
        public Void visitMethodInvocation(MethodInvocationTree tree, Void none) {
            call(tree, getCurrentPath());
            return super.visitMethodInvocation(tree, none);
        }

        @Override
        public Void visitNewClass(NewClassTree tree, Void none) {
            call(tree, getCurrentPath());
            return super.visitNewClass(tree, none);
        }

        @Override
        public Void visitThrow(ThrowTree tree, Void none) {
            ExpressionTree thrown = tree.getExpression();
            boolean good = thrown instanceof NewClassTree && method.startsWith("RangeCodes.part(");
            if (good) {
                for (ExpressionTree argument : ((NewClassTree) thrown).getArguments()) {
                    good &= argument instanceof LiteralTree;
                }
            }
            if (!good) {
                refuse(6, place(tree) + ": only part() throws, by a new exception with a written text");
            }
            return super.visitThrow(tree, none);
        }

        @Override
        public Void visitTry(TryTree tree, Void none) {
            refuse(6, place(tree) + ": try");
            return super.visitTry(tree, none);
        }

        @Override
        public Void visitLambdaExpression(LambdaExpressionTree tree, Void none) {
            refuse(2, place(tree) + ": a lambda");
            return super.visitLambdaExpression(tree, none);
        }

        @Override
        public Void visitMemberReference(MemberReferenceTree tree, Void none) {
            refuse(2, place(tree) + ": a method reference");
            return super.visitMemberReference(tree, none);
        }

        @Override
        public Void visitAssert(AssertTree tree, Void none) {
            refuse(6, place(tree) + ": assert");
            return super.visitAssert(tree, none);
        }

        @Override
        public Void visitSynchronized(SynchronizedTree tree, Void none) {
            refuse(6, place(tree) + ": synchronized");
            return super.visitSynchronized(tree, none);
        }

        void depths() {
            for (String name : calls.keySet()) {
                int depth = depth(name, 1);
                if (depth > DEEPEST) {
                    refuse(11, name + " goes " + depth + " deep");
                }
            }
        }

        /** A depth that is beyond all methods tells that they go round. */
        int depth(String name, int open) {
            if (open > 40) {
                refuse(8, name + " calls itself");
                return 0;
            }
            Integer known = depths.get(name);
            if (known != null) {
                return known;
            }
            int deepest = 0;
            for (String called : calls.getOrDefault(name, Set.of())) {
                deepest = Math.max(deepest, depth(called, open + 1));
            }
            depths.put(name, deepest + 1);
            return deepest + 1;
        }

        void sizes() {
            if (classes > MOST_CLASSES) {
                refuse(11, classes + " classes");
            }
            // what is not looked at can not be refused
            if (classes < 2 || looked < 100) {
                refuse(0, "only " + looked + " calls in " + classes + " classes were seen");
            }
        }
    }
}
