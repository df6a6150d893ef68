import com.sun.source.tree.AnnotationTree;
import com.sun.source.tree.AssertTree;
import com.sun.source.tree.BinaryTree;
import com.sun.source.tree.BlockTree;
import com.sun.source.tree.ClassTree;
import com.sun.source.tree.CompilationUnitTree;
import com.sun.source.tree.ExpressionTree;
import com.sun.source.tree.ImportTree;
import com.sun.source.tree.InstanceOfTree;
import com.sun.source.tree.LambdaExpressionTree;
import com.sun.source.tree.LineMap;
import com.sun.source.tree.MemberReferenceTree;
import com.sun.source.tree.MethodInvocationTree;
import com.sun.source.tree.MethodTree;
import com.sun.source.tree.NewClassTree;
import com.sun.source.tree.SynchronizedTree;
import com.sun.source.tree.ThrowTree;
import com.sun.source.tree.Tree;
import com.sun.source.tree.TryTree;
import com.sun.source.tree.TypeCastTree;
import com.sun.source.tree.VariableTree;
import com.sun.source.util.JavacTask;
import com.sun.source.util.TreePathScanner;
import com.sun.source.util.Trees;
import java.io.File;
import java.util.ArrayList;
import java.util.HashMap;
import java.util.HashSet;
import java.util.LinkedHashMap;
import java.util.List;
import java.util.Map;
import java.util.Set;
import javax.lang.model.element.Element;
import javax.lang.model.element.ExecutableElement;
import javax.lang.model.element.Modifier;
import javax.lang.model.element.TypeElement;
import javax.lang.model.type.TypeKind;
import javax.lang.model.type.TypeMirror;
import javax.tools.JavaCompiler;
import javax.tools.JavaFileObject;
import javax.tools.StandardJavaFileManager;
import javax.tools.ToolProvider;

/** The rules of LANGUAGE.md as far as they can be seen in the source (its path is the first argument). */
public final class RulesTest {
    private static final String DEFAULT_SOURCE = "src/main/java/LastHome.java";
    private static final int MOST_LINES_OF_METHOD = 60;
    private static final int MOST_DEEP = 8;
    private static final Set<String> TYPES = Set.of("int", "long", "short", "byte", "char", "boolean", "double", "float",
        "int[]", "long[]", "int[][]", "long[][]", "java.lang.String");
    private static final Set<String> MADE = Set.of("java.util.NoSuchElementException", "java.lang.IllegalStateException",
        "java.lang.IllegalArgumentException", "java.lang.IndexOutOfBoundsException", "java.lang.ArithmeticException",
        "java.lang.UnsupportedOperationException", "java.lang.RuntimeException");
    private static final Set<String> CALLED = Set.of("java.lang.String.indexOf", "java.lang.String.length",
        "java.lang.String.charAt", "java.lang.System.arraycopy", "java.util.Arrays.fill", "java.util.Arrays.copyOf",
        "java.util.Arrays.copyOfRange", "java.lang.Math.max", "java.lang.Math.min", "java.lang.Math.abs",
        "java.lang.Math.floorMod", "java.lang.Math.floorDiv", "java.lang.Integer.bitCount", "java.lang.Object.<init>");

    private RulesTest() {
    }

    public static void main(String[] args) throws Exception {
        JavaCompiler compiler = ToolProvider.getSystemJavaCompiler();
        try (StandardJavaFileManager files = compiler.getStandardFileManager(null, null, null)) {
            File source = new File(args.length > 0 ? args[0] : DEFAULT_SOURCE);
            Iterable<? extends JavaFileObject> units = files.getJavaFileObjects(source);
            JavacTask task = (JavacTask) compiler.getTask(null, files, null, List.of("-proc:none"), null, units);
            Iterable<? extends CompilationUnitTree> parsed = task.parse();
            task.analyze();
            for (CompilationUnitTree unit : parsed) {
                Reader reader = new Reader(Trees.instance(task), unit);
                reader.scan(unit, null);
                reader.finish();
            }
        }
        Check.finish("RulesTest");
    }

    private static final class Reader extends TreePathScanner<Void, Void> {
        private final Trees trees;
        private final CompilationUnitTree unit;
        private final Map<String, Set<String>> calls = new LinkedHashMap<>();
        private final List<String> face = new ArrayList<>();
        private int classes = 0;
        private String method = "";

        Reader(Trees trees, CompilationUnitTree unit) {
            this.trees = trees;
            this.unit = unit;
            Check.same("rule 1: no package", unit.getPackage() == null, true);
        }

        private void refuse(String rule, Tree tree) {
            long at = trees.getSourcePositions().getStartPosition(unit, tree);
            Check.same("rule " + rule + ", line " + unit.getLineMap().getLineNumber(at) + ": how often", 1, 0);
        }

        private boolean isOwn(Element e) {
            for (Element at = e; at != null; at = at.getEnclosingElement()) {
                if (at.toString().equals("LastHome")) {
                    return true;
                }
            }
            return false;
        }

        private boolean isAllowed(TypeMirror type) {
            if (type == null || type.getKind() == TypeKind.VOID) {
                return true;
            }
            return TYPES.contains(type.toString()) || type.toString().matches("LastHome(\\.\\w+)?(\\[\\])?");
        }

        @Override
        public Void visitImport(ImportTree tree, Void none) {
            if (!tree.getQualifiedIdentifier().toString().equals("java.util.NoSuchElementException")) {
                refuse("4 (an import)", tree);
            }
            return super.visitImport(tree, none);
        }

        @Override
        public Void visitClass(ClassTree tree, Void none) {
            classes++;
            boolean outermost = tree.getSimpleName().contentEquals("LastHome");
            Set<Modifier> flags = tree.getModifiers().getFlags();
            if (!outermost && (!flags.contains(Modifier.STATIC) || flags.contains(Modifier.PUBLIC))) {
                refuse("1 (a class inside)", tree);
            }
            for (Tree member : tree.getMembers()) {
                if (member instanceof BlockTree) {
                    refuse("5 (an initialiser block)", member);
                }
            }
            return super.visitClass(tree, none);
        }

        @Override
        public Void visitMethod(MethodTree tree, Void none) {
            ExecutableElement element = (ExecutableElement) trees.getElement(getCurrentPath());
            String before = method;
            method = name(element);
            calls.putIfAbsent(method, new HashSet<>());
            if (element.getModifiers().contains(Modifier.PUBLIC)) {
                face.add(method);
            }
            long from = trees.getSourcePositions().getStartPosition(unit, tree);
            long to = trees.getSourcePositions().getEndPosition(unit, tree);
            LineMap lines = unit.getLineMap();
            if (to > from && lines.getLineNumber(to) - lines.getLineNumber(from) >= MOST_LINES_OF_METHOD) {
                refuse("11 (a long method)", tree);
            }
            if (tree.getParameters().size() > 7) {
                refuse("11 (parameters)", tree);
            }
            if (!isAllowed(element.getReturnType())) {
                refuse("3 (an answer's type)", tree);
            }
            super.visitMethod(tree, none);
            method = before;
            return null;
        }

        private String name(ExecutableElement e) {
            return ((TypeElement) e.getEnclosingElement()).getQualifiedName() + "." + e.getSimpleName();
        }

        @Override
        public Void visitMethodInvocation(MethodInvocationTree tree, Void none) {
            ExecutableElement called = (ExecutableElement) trees.getElement(getCurrentPath());
            note(called, tree);
            return super.visitMethodInvocation(tree, none);
        }

        @Override
        public Void visitNewClass(NewClassTree tree, Void none) {
            ExecutableElement made = (ExecutableElement) trees.getElement(getCurrentPath());
            if (tree.getClassBody() != null) {
                refuse("2 (a class without a name)", tree);
            }
            if (isOwn(made)) {
                note(made, tree);
            } else if (!MADE.contains(made.getEnclosingElement().toString())) {
                refuse("4 (an object of the library)", tree);
            }
            return super.visitNewClass(tree, none);
        }

        private void note(ExecutableElement called, Tree tree) {
            if (isOwn(called)) {
                calls.computeIfAbsent(method, m -> new HashSet<>()).add(name(called));
            } else if (!CALLED.contains(name(called))) {
                refuse("4 (" + name(called) + ")", tree);
            }
        }

        @Override
        public Void visitVariable(VariableTree tree, Void none) {
            Element element = trees.getElement(getCurrentPath());
            Set<Modifier> flags = element.getModifiers();
            if (flags.contains(Modifier.STATIC) && !flags.contains(Modifier.FINAL)) {
                refuse("5 (static state)", tree);
            }
            if (!isAllowed(element.asType())) {
                refuse("3 (" + element.asType() + ")", tree);
            }
            return super.visitVariable(tree, none);
        }

        @Override
        public Void visitThrow(ThrowTree tree, Void none) {
            ExpressionTree thrown = tree.getExpression();
            boolean written = thrown instanceof NewClassTree;
            if (written) {
                for (ExpressionTree argument : ((NewClassTree) thrown).getArguments()) {
                    written = written && argument.getKind() == Tree.Kind.STRING_LITERAL;
                }
            }
            if (!written || method.endsWith("<init>")) {
                refuse("6 (a throw)", tree);
            }
            return super.visitThrow(tree, none);
        }

        /** Nothing in the class is answered by catching, so that what the machine throws cannot be caught either. */
        @Override
        public Void visitTry(TryTree tree, Void none) {
            refuse("6 (a try)", tree);
            return super.visitTry(tree, none);
        }

        @Override
        public Void visitBinary(BinaryTree tree, Void none) {
            TypeMirror type = trees.getTypeMirror(getCurrentPath());
            if (type != null && type.getKind() == TypeKind.DECLARED) {
                refuse("10 (texts joined by +)", tree);
            }
            return super.visitBinary(tree, none);
        }

        @Override
        public Void visitTypeCast(TypeCastTree tree, Void none) {
            TypeMirror type = trees.getTypeMirror(getCurrentPath());
            if (type == null || !type.getKind().isPrimitive()) {
                refuse("7 (a cast of objects)", tree);
            }
            return super.visitTypeCast(tree, none);
        }

        @Override
        public Void visitLambdaExpression(LambdaExpressionTree tree, Void none) {
            refuse("2 (a lambda)", tree);
            return super.visitLambdaExpression(tree, none);
        }

        @Override
        public Void visitMemberReference(MemberReferenceTree tree, Void none) {
            refuse("2 (a method reference)", tree);
            return super.visitMemberReference(tree, none);
        }

        @Override
        public Void visitSynchronized(SynchronizedTree tree, Void none) {
            refuse("6 (synchronized)", tree);
            return super.visitSynchronized(tree, none);
        }

        @Override
        public Void visitAssert(AssertTree tree, Void none) {
            refuse("6 (assert)", tree);
            return super.visitAssert(tree, none);
        }

        @Override
        public Void visitInstanceOf(InstanceOfTree tree, Void none) {
            refuse("6 (instanceof)", tree);
            return super.visitInstanceOf(tree, none);
        }

        @Override
        public Void visitAnnotation(AnnotationTree tree, Void none) {
            refuse("4 (an annotation)", tree);
            return super.visitAnnotation(tree, none);
        }

        void finish() {
            Check.same("rule 11: twelve classes at most", classes <= 12, true);
            Check.same("the calls of the face and the constructor", face.size(), 46);
            for (String call : face) {
                Check.same("rule 11: " + call + " is eight deep at most", depth(call, new HashMap<>()) <= MOST_DEEP, true);
            }
        }

        /** How deep the calls go; methods that call one another count once. */
        private int depth(String from, Map<Set<String>, Integer> known) {
            Set<String> ring = ringOf(from);
            Integer old = known.get(ring);
            if (old != null) {
                return old;
            }
            int deepest = 0;
            for (String member : ring) {
                for (String next : calls.getOrDefault(member, Set.of())) {
                    if (!ring.contains(next)) {
                        deepest = Math.max(deepest, depth(next, known));
                    }
                }
            }
            known.put(ring, deepest + 1);
            return deepest + 1;
        }

        private Set<String> ringOf(String method) {
            Set<String> ring = new HashSet<>();
            ring.add(method);
            for (String other : reachedFrom(method)) {
                if (reachedFrom(other).contains(method)) {
                    ring.add(other);
                }
            }
            return ring;
        }

        private Set<String> reachedFrom(String method) {
            Set<String> reached = new HashSet<>();
            List<String> todo = new ArrayList<>(List.of(method));
            while (!todo.isEmpty()) {
                for (String next : calls.getOrDefault(todo.remove(todo.size() - 1), Set.of())) {
                    if (reached.add(next)) {
                        todo.add(next);
                    }
                }
            }
            return reached;
        }
    }
}
