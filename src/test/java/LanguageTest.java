import com.sun.source.tree.BinaryTree;
import com.sun.source.tree.BlockTree;
import com.sun.source.tree.ClassTree;
import com.sun.source.tree.CompilationUnitTree;
import com.sun.source.tree.ExpressionTree;
import com.sun.source.tree.ImportTree;
import com.sun.source.tree.LiteralTree;
import com.sun.source.tree.MethodInvocationTree;
import com.sun.source.tree.MethodTree;
import com.sun.source.tree.NewArrayTree;
import com.sun.source.tree.NewClassTree;
import com.sun.source.tree.ThrowTree;
import com.sun.source.tree.Tree;
import com.sun.source.tree.VariableTree;
import com.sun.source.util.JavacTask;
import com.sun.source.util.SourcePositions;
import com.sun.source.util.TreePath;
import com.sun.source.util.TreePathScanner;
import com.sun.source.util.Trees;
import java.nio.file.Path;
import java.util.ArrayList;
import java.util.EnumSet;
import java.util.List;
import java.util.Map;
import java.util.Set;
import java.util.TreeMap;
import java.util.TreeSet;
import javax.lang.model.element.Element;
import javax.lang.model.element.ElementKind;
import javax.lang.model.element.ExecutableElement;
import javax.lang.model.element.Modifier;
import javax.lang.model.element.TypeElement;
import javax.lang.model.type.TypeKind;
import javax.tools.JavaCompiler;
import javax.tools.StandardJavaFileManager;
import javax.tools.ToolProvider;

/** Those rules of ../shared/LANGUAGE.md that can be read off the source: what stands in it, how much, how deep. */
public final class LanguageTest {
    private static final String SOURCE = "src/main/java/LineSorter.java";
    private static final int MOST_PARAMETERS = 7;
    private static final int MOST_LINES_OF_A_METHOD = 60;
    private static final int DEEPEST_CALLS = 8;
    private static final int MOST_CLASSES = 12;
    private static final int MOST_FIELDS = 20;

    private static final Set<String> IMPORTS = Set.of("java.util.ArrayList", "java.util.Arrays", "java.util.Iterator",
            "java.util.List", "java.util.NoSuchElementException");
    // Of the library only what the class may need, which is less than the rules leave.
    private static final Set<String> LIBRARY = Set.of("java.util.Arrays.copyOf", "java.util.Arrays.copyOfRange",
            "java.util.Arrays.fill", "java.lang.System.arraycopy", "java.lang.Math.min", "java.lang.Math.max",
            "java.lang.Math.abs", "java.lang.Integer.compare", "java.lang.Object.<init>");
    private static final Set<String> EXCEPTIONS = Set.of("IllegalStateException", "IllegalArgumentException",
            "IndexOutOfBoundsException", "ArithmeticException", "UnsupportedOperationException", "NoSuchElementException",
            "RuntimeException");
    // Some of these the rules would leave within bounds; the class does without them.
    private static final Set<Tree.Kind> NOT_IN_IT = EnumSet.of(Tree.Kind.LAMBDA_EXPRESSION, Tree.Kind.MEMBER_REFERENCE,
            Tree.Kind.TRY, Tree.Kind.SYNCHRONIZED, Tree.Kind.ASSERT, Tree.Kind.INSTANCE_OF, Tree.Kind.TYPE_CAST,
            Tree.Kind.ANNOTATION, Tree.Kind.ANNOTATION_TYPE, Tree.Kind.DOUBLE_LITERAL, Tree.Kind.FLOAT_LITERAL);

    private static int wrong = 0;

    public static void main(String[] args) throws Exception {
        JavaCompiler compiler = ToolProvider.getSystemJavaCompiler();
        try (StandardJavaFileManager files = compiler.getStandardFileManager(null, null, null)) {
            JavacTask task = (JavacTask) compiler.getTask(null, files, null, List.of("-encoding", "UTF-8", "-proc:none"), null,
                    files.getJavaFileObjects(Path.of(SOURCE)));
            CompilationUnitTree unit = task.parse().iterator().next();
            task.analyze();
            Reader reader = new Reader(Trees.instance(task), unit);
            reader.scan(unit, null);
            reader.judge();
        }
        System.out.println(wrong == 0 ? "the class keeps to the rules" : wrong + " places are outside the rules");
        if (wrong != 0) {
            System.exit(1);
        }
    }

    private static void need(boolean holds, int rule, String told) {
        if (!holds) {
            wrong++;
            System.out.println("rule " + rule + ": " + told);
        }
    }

    /** Walks over all of the source once. */
    private static final class Reader extends TreePathScanner<Void, Void> {
        private final Trees trees;
        private final CompilationUnitTree unit;
        private final Map<String, Set<String>> calls = new TreeMap<>();
        private final List<String> face = new ArrayList<>();
        private int classes = 0;

        Reader(Trees trees, CompilationUnitTree unit) {
            this.trees = trees;
            this.unit = unit;
            need(unit.getPackageName() == null, 1, "there is a package line");
        }

        void judge() {
            need(classes <= MOST_CLASSES, 11, classes + " classes");
            need(!face.isEmpty() && !calls.isEmpty(), 1, "nothing was read");
            for (String method : face) {
                int depth = depthOf(method, new ArrayList<>());
                need(depth <= DEEPEST_CALLS, 11, "calls go " + depth + " deep from " + method);
            }
        }

        private int depthOf(String method, List<String> open) {
            if (open.contains(method)) {
                need(false, 8, method + " calls itself, and nothing here carries a depth");
                return 0;
            }
            open.add(method);
            int deepest = 0;
            for (String called : calls.getOrDefault(method, Set.of())) {
                deepest = Math.max(deepest, depthOf(called, open));
            }
            open.remove(method);
            return deepest + 1;
        }

        private long line(Tree tree, boolean end) {
            SourcePositions positions = trees.getSourcePositions();
            long at = end ? positions.getEndPosition(unit, tree) : positions.getStartPosition(unit, tree);
            return unit.getLineMap().getLineNumber(at);
        }

        private String at(Tree tree) {
            return " in line " + line(tree, false);
        }

        @Override
        public Void scan(Tree tree, Void nothing) {
            if (tree != null) {
                need(!NOT_IN_IT.contains(tree.getKind()) || isCastOfNumbers(tree), 10, tree.getKind() + at(tree));
            }
            return super.scan(tree, nothing);
        }

        private boolean isCastOfNumbers(Tree tree) {
            return tree.getKind() == Tree.Kind.TYPE_CAST
                    && trees.getTypeMirror(new TreePath(getCurrentPath(), tree)).getKind().isPrimitive();
        }

        @Override
        public Void visitImport(ImportTree tree, Void nothing) {
            need(!tree.isStatic() && IMPORTS.contains(tree.getQualifiedIdentifier().toString()), 4, tree + at(tree));
            return super.visitImport(tree, nothing);
        }

        @Override
        public Void visitClass(ClassTree tree, Void nothing) {
            classes++;
            Set<Modifier> flags = tree.getModifiers().getFlags();
            boolean isOuter = getCurrentPath().getParentPath().getLeaf() instanceof CompilationUnitTree;
            boolean isNested = getCurrentPath().getParentPath().getLeaf() instanceof ClassTree;
            need(isOuter ? flags.contains(Modifier.PUBLIC) && flags.contains(Modifier.FINAL)
                    : isNested && flags.contains(Modifier.STATIC) && !flags.contains(Modifier.PUBLIC)
                    && !flags.contains(Modifier.PROTECTED), 1, "class " + tree.getSimpleName() + at(tree));
            int fields = 0;
            for (Tree member : tree.getMembers()) {
                need(!(member instanceof BlockTree), 5, "an initialiser block" + at(member));
                boolean isField = member instanceof VariableTree;
                if (isField && isStatic((VariableTree) member)) {
                    needConstant((VariableTree) member);
                } else if (isField) {
                    fields++;
                }
            }
            need(fields <= MOST_FIELDS, 11, fields + " fields" + at(tree));
            return super.visitClass(tree, nothing);
        }

        private static boolean isStatic(VariableTree field) {
            return field.getModifiers().getFlags().contains(Modifier.STATIC);
        }

        private void needConstant(VariableTree field) {
            boolean isFinal = field.getModifiers().getFlags().contains(Modifier.FINAL);
            String type = field.getType().toString();
            need(isFinal && Set.of("int", "long", "boolean", "char", "String").contains(type), 5, field + at(field));
        }

        @Override
        public Void visitMethod(MethodTree tree, Void nothing) {
            Element element = trees.getElement(getCurrentPath());
            String name = nameOf(element);
            need(tree.getParameters().size() <= MOST_PARAMETERS, 11, "parameters of " + name);
            long lines = line(tree, true) - line(tree, false) + 1;
            need(lines <= MOST_LINES_OF_A_METHOD, 11, lines + " lines of " + name);
            if (element.getModifiers().contains(Modifier.PUBLIC)) {
                face.add(name);
            }
            return super.visitMethod(tree, nothing);
        }

        private static String nameOf(Element element) {
            return ((TypeElement) element.getEnclosingElement()).getQualifiedName() + "." + element.getSimpleName();
        }

        private TreePath methodAround() {
            TreePath path = getCurrentPath();
            while (path != null && !(path.getLeaf() instanceof MethodTree)) {
                path = path.getParentPath();
            }
            return path;
        }

        private void addCall(Element called, Tree tree) {
            String name = nameOf(called);
            boolean isOwn = name.startsWith("LineSorter.");
            need(isOwn || LIBRARY.contains(name), 4, name + at(tree));
            TreePath around = methodAround();
            if (isOwn && around != null) {
                calls.computeIfAbsent(nameOf(trees.getElement(around)), made -> new TreeSet<>()).add(name);
            }
        }

        @Override
        public Void visitMethodInvocation(MethodInvocationTree tree, Void nothing) {
            addCall(trees.getElement(getCurrentPath()), tree);
            return super.visitMethodInvocation(tree, nothing);
        }

        @Override
        public Void visitNewClass(NewClassTree tree, Void nothing) {
            needNoOpenLoop(tree);
            boolean isThrown = getCurrentPath().getParentPath().getLeaf() instanceof ThrowTree;
            if (!isThrown) {
                addCall((ExecutableElement) trees.getElement(getCurrentPath()), tree);
            }
            return super.visitNewClass(tree, nothing);
        }

        @Override
        public Void visitNewArray(NewArrayTree tree, Void nothing) {
            needNoOpenLoop(tree);
            return super.visitNewArray(tree, nothing);
        }

        private void needNoOpenLoop(Tree tree) {
            for (TreePath path = getCurrentPath(); path != null; path = path.getParentPath()) {
                Tree.Kind kind = path.getLeaf().getKind();
                need(kind != Tree.Kind.WHILE_LOOP && kind != Tree.Kind.DO_WHILE_LOOP, 12, "made in a loop" + at(tree));
            }
        }

        @Override
        public Void visitThrow(ThrowTree tree, Void nothing) {
            boolean isNew = tree.getExpression() instanceof NewClassTree;
            need(isNew, 6, tree + at(tree));
            if (isNew) {
                NewClassTree made = (NewClassTree) tree.getExpression();
                List<? extends ExpressionTree> texts = made.getArguments();
                need(EXCEPTIONS.contains(made.getIdentifier().toString()), 6, tree + at(tree));
                need(texts.isEmpty() || texts.size() == 1 && texts.get(0) instanceof LiteralTree, 6, tree + at(tree));
            }
            Element method = trees.getElement(methodAround());
            need(method.getKind() == ElementKind.METHOD && method.getModifiers().contains(Modifier.PUBLIC), 6,
                    "a throw outside the face" + at(tree));
            return super.visitThrow(tree, nothing);
        }

        @Override
        public Void visitBinary(BinaryTree tree, Void nothing) {
            boolean isJoined = tree.getKind() == Tree.Kind.PLUS
                    && trees.getTypeMirror(getCurrentPath()).getKind() == TypeKind.DECLARED;
            need(!isJoined, 10, "texts joined by +" + at(tree));
            return super.visitBinary(tree, nothing);
        }

        @Override
        public Void visitVariable(VariableTree tree, Void nothing) {
            String type = trees.getTypeMirror(getCurrentPath()).toString();
            boolean isPlain = Set.of("int", "byte", "boolean", "int[]", "byte[]").contains(type);
            need(isPlain || type.startsWith("LineSorter."), 3, type + at(tree));
            return super.visitVariable(tree, nothing);
        }
    }
}
