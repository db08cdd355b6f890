import com.sun.source.tree.AssertTree;
import com.sun.source.tree.BinaryTree;
import com.sun.source.tree.BlockTree;
import com.sun.source.tree.CatchTree;
import com.sun.source.tree.ClassTree;
import com.sun.source.tree.CompilationUnitTree;
import com.sun.source.tree.CompoundAssignmentTree;
import com.sun.source.tree.ExpressionTree;
import com.sun.source.tree.LambdaExpressionTree;
import com.sun.source.tree.LineMap;
import com.sun.source.tree.MemberReferenceTree;
import com.sun.source.tree.MethodInvocationTree;
import com.sun.source.tree.MethodTree;
import com.sun.source.tree.NewClassTree;
import com.sun.source.tree.SynchronizedTree;
import com.sun.source.tree.ThrowTree;
import com.sun.source.tree.Tree;
import com.sun.source.tree.TryTree;
import com.sun.source.tree.VariableTree;
import com.sun.source.util.JavacTask;
import com.sun.source.util.TreePath;
import com.sun.source.util.TreePathScanner;
import com.sun.source.util.Trees;
import java.io.IOException;
import java.nio.file.Path;
import java.util.ArrayList;
import java.util.HashMap;
import java.util.HashSet;
import java.util.List;
import java.util.Map;
import java.util.Set;
import java.util.TreeSet;
import javax.lang.model.element.Element;
import javax.lang.model.element.ElementKind;
import javax.lang.model.element.Modifier;
import javax.lang.model.element.NestingKind;
import javax.lang.model.element.TypeElement;
import javax.lang.model.type.ArrayType;
import javax.lang.model.type.DeclaredType;
import javax.lang.model.type.TypeKind;
import javax.lang.model.type.TypeMirror;
import javax.tools.JavaCompiler;
import javax.tools.StandardJavaFileManager;
import javax.tools.ToolProvider;

/** What ../shared/LANGUAGE.md leaves of the language, as far as the source tells it: rules 7, 9 and 12 need a reader. */
public final class LanguageTests {
    private static final Path PROGRAM = Path.of("src/main/java/ButtonReef.java");
    private static final int MOST_CLASSES = 12;
    private static final int MOST_FIELDS = 20;
    private static final int MOST_PARAMETERS = 7;
    private static final int MOST_LINES = 60;
    private static final int DEEPEST = 8;

    private static final Set<String> EXCEPTIONS = Set.of("IllegalStateException", "IllegalArgumentException",
        "IndexOutOfBoundsException", "ArithmeticException", "UnsupportedOperationException", "NoSuchElementException",
        "RuntimeException");
    private static final Set<String> LIBRARY_TYPES = Set.of("String", "StringBuilder", "Integer", "ArrayList", "List",
        "Iterator", "Iterable", "Comparable");
    private static final Map<String, Set<String>> LIBRARY_CALLS = Map.of(
        "String", Set.of("<init>", "length", "charAt", "isEmpty", "equals", "indexOf", "substring", "toCharArray"),
        "StringBuilder", Set.of("<init>", "append", "charAt", "setCharAt", "setLength", "deleteCharAt", "reverse",
            "length", "toString"),
        "ArrayList", Set.of("<init>", "add", "get", "set", "remove", "size", "isEmpty", "clear"),
        "List", Set.of("add", "get", "set", "remove", "size", "isEmpty", "clear", "of"),
        "System", Set.of("arraycopy"),
        "Arrays", Set.of("copyOf", "copyOfRange", "fill"),
        "Array", Set.of("clone"));
    private static final Set<String> CONSTANT_TYPES = Set.of("int", "long", "boolean", "char", "java.lang.String");
    private static final Set<String> CONSTANT_ARRAYS = Set.of("int[]", "long[]", "char[]", "byte[]");
    private static final Set<String> ENUM_FIELD_TYPES = Set.of("int", "long", "boolean", "java.lang.String");

    private LanguageTests() {
    }

    public static void main(String[] args) throws IOException {
        Check.begin(PROGRAM.toString());
        JavaCompiler compiler = ToolProvider.getSystemJavaCompiler();
        try (StandardJavaFileManager files = compiler.getStandardFileManager(null, null, null)) {
            JavacTask task = (JavacTask) compiler.getTask(null, files, null, List.of("--release", "17"), null,
                files.getJavaFileObjects(PROGRAM));
            CompilationUnitTree unit = task.parse().iterator().next();
            task.analyze();
            new Reading(unit, Trees.instance(task)).read();
        }
        Check.end();
    }

    private static final class Reading extends TreePathScanner<Void, Void> {
        private final CompilationUnitTree unit;
        private final Trees trees;
        private final LineMap lines;
        private final Map<String, Set<String>> calls = new HashMap<>();
        private int classes = 0;

        Reading(CompilationUnitTree unit, Trees trees) {
            this.unit = unit;
            this.trees = trees;
            lines = unit.getLineMap();
        }

        void read() {
            obeys(1, "no package line, one class", unit,
                unit.getPackageName() == null && unit.getTypeDecls().size() == 1);
            scan(unit, null);
            obeys(11, "at most 12 classes", unit, classes <= MOST_CLASSES);
            for (String method : new TreeSet<>(calls.keySet())) {
                int depth = depth(method, new ArrayList<>());
                obeys(11, "at most 8 calls deep: " + method, unit, depth <= DEEPEST);
            }
        }

        private void obeys(int rule, String what, Tree tree, boolean does) {
            long line = lines.getLineNumber(trees.getSourcePositions().getStartPosition(unit, tree));
            Check.same("rule " + rule + ", line " + line + ", " + what, true, does);
        }

        private Element element(Tree tree) {
            return trees.getElement(TreePath.getPath(unit, tree));
        }

        private TypeMirror type(Tree tree) {
            return trees.getTypeMirror(TreePath.getPath(unit, tree));
        }

        // ---- classes, fields and methods

        @Override
        public Void visitClass(ClassTree tree, Void nothing) {
            classes++;
            TypeElement type = (TypeElement) element(tree);
            if (type.getNestingKind() == NestingKind.MEMBER) {
                obeys(2, "static", tree, type.getModifiers().contains(Modifier.STATIC));
                obeys(1, "private or package-visible", tree, !type.getModifiers().contains(Modifier.PUBLIC)
                    && !type.getModifiers().contains(Modifier.PROTECTED));
            }
            int fields = 0;
            for (Tree member : tree.getMembers()) {
                boolean isField = member instanceof VariableTree;
                fields += isField && !element(member).getModifiers().contains(Modifier.STATIC) ? 1 : 0;
                obeys(5, "no initialiser block", member, !(member instanceof BlockTree));
            }
            obeys(11, "at most 20 fields", tree, fields <= MOST_FIELDS);
            return super.visitClass(tree, nothing);
        }

        @Override
        public Void visitVariable(VariableTree tree, Void nothing) {
            Element variable = element(tree);
            TypeMirror type = variable.asType();
            boolean isCaught = variable.getKind() == ElementKind.EXCEPTION_PARAMETER;
            obeys(3, "the type " + type, tree, isCaught || isLeft(type));
            if (variable.getKind() == ElementKind.FIELD) {
                if (variable.getModifiers().contains(Modifier.STATIC)) {
                    obeys(5, "final", tree, variable.getModifiers().contains(Modifier.FINAL));
                    obeys(5, "a constant of the type " + type, tree, isConstant(tree, type));
                } else if (variable.getEnclosingElement().getKind() == ElementKind.ENUM) {
                    obeys(2, "an enum's field of the type " + type, tree, ENUM_FIELD_TYPES.contains(type.toString()));
                }
            }
            return super.visitVariable(tree, nothing);
        }

        private boolean isConstant(VariableTree tree, TypeMirror type) {
            String start = String.valueOf(tree.getInitializer());
            return CONSTANT_TYPES.contains(type.toString())
                || CONSTANT_ARRAYS.contains(type.toString()) && start.startsWith("{")
                || type.getKind() == TypeKind.ARRAY && start.endsWith(".values()");
        }

        @Override
        public Void visitMethod(MethodTree tree, Void nothing) {
            obeys(11, "at most 7 parameters", tree, tree.getParameters().size() <= MOST_PARAMETERS);
            if (tree.getReturnType() != null) {
                obeys(3, "the type " + type(tree.getReturnType()), tree, isLeft(type(tree.getReturnType())));
            }
            long first = lines.getLineNumber(trees.getSourcePositions().getStartPosition(unit, tree));
            long end = trees.getSourcePositions().getEndPosition(unit, tree);
            obeys(11, "some 60 lines", tree, end < 0 || lines.getLineNumber(end) - first < MOST_LINES);
            calls.computeIfAbsent(name(element(tree)), name -> new HashSet<>());
            return super.visitMethod(tree, nothing);
        }

        /** Whether the rules leave a type. */
        private boolean isLeft(TypeMirror type) {
            if (type.getKind() == TypeKind.ARRAY) {
                TypeMirror part = ((ArrayType) type).getComponentType();
                boolean hasTwoDimensions = part.getKind() == TypeKind.ARRAY;
                return hasTwoDimensions ? ((ArrayType) part).getComponentType().getKind().isPrimitive()
                    : part.getKind().isPrimitive() || isOwn(part);
            }
            boolean isLibrary = type.getKind() == TypeKind.DECLARED
                && LIBRARY_TYPES.contains(((DeclaredType) type).asElement().getSimpleName().toString());
            return type.getKind().isPrimitive() || type.getKind() == TypeKind.VOID || type.getKind() == TypeKind.TYPEVAR
                || isLibrary || isOwn(type);
        }

        private boolean isOwn(TypeMirror type) {
            return type.getKind() == TypeKind.DECLARED && isOwn(((DeclaredType) type).asElement());
        }

        private boolean isOwn(Element element) {
            Element outermost = element;
            while (outermost.getEnclosingElement().getKind() != ElementKind.PACKAGE) {
                outermost = outermost.getEnclosingElement();
            }
            return outermost.getSimpleName().contentEquals("ButtonReef");
        }

        // ---- calls

        @Override
        public Void visitMethodInvocation(MethodInvocationTree tree, Void nothing) {
            call(tree);
            return super.visitMethodInvocation(tree, nothing);
        }

        @Override
        public Void visitNewClass(NewClassTree tree, Void nothing) {
            call(tree);
            return super.visitNewClass(tree, nothing);
        }

        private void call(Tree tree) {
            Element called = element(tree);
            Element owner = called.getEnclosingElement();
            String caller = caller();
            if (isOwn(owner)) {
                calls.computeIfAbsent(caller, name -> new HashSet<>()).add(name(called));
            } else if (!isSuperOfAConstructor(tree) && !isThrown()) {
                String method = called.getSimpleName().toString();
                obeys(4, owner + "." + method, tree, isInLibrary(owner.getSimpleName().toString(), called, method));
            }
        }

        private static boolean isInLibrary(String owner, Element called, String method) {
            boolean counts = owner.equals("Math") || owner.equals("Integer") || owner.equals("Long");
            return counts ? called.getModifiers().contains(Modifier.STATIC) && !method.endsWith("Exact")
                : LIBRARY_CALLS.getOrDefault(owner, Set.of()).contains(method);
        }

        /** The call that javac puts into each constructor. */
        private static boolean isSuperOfAConstructor(Tree tree) {
            return tree instanceof MethodInvocationTree call && call.getMethodSelect().toString().equals("super");
        }

        private boolean isThrown() {
            return getCurrentPath().getParentPath().getLeaf() instanceof ThrowTree;
        }

        private String caller() {
            for (TreePath path = getCurrentPath(); path != null; path = path.getParentPath()) {
                if (path.getLeaf() instanceof MethodTree) {
                    return name(trees.getElement(path));
                }
                if (path.getLeaf() instanceof VariableTree && isStaticField(path)) {
                    return "the static fields of " + trees.getElement(path).getEnclosingElement();
                }
                if (path.getLeaf() instanceof ClassTree) {
                    return trees.getElement(path).getSimpleName() + ".<init>";
                }
            }
            return "";
        }

        private boolean isStaticField(TreePath path) {
            return trees.getElement(path).getModifiers().contains(Modifier.STATIC);
        }

        /** All constructors of a class count as one, together with what its fields are given. */
        private static String name(Element method) {
            boolean isConstructor = method.getKind() == ElementKind.CONSTRUCTOR;
            return method.getEnclosingElement().getSimpleName() + "." + (isConstructor ? "<init>" : method.toString());
        }

        /** How many calls are open at most when a method calls what it calls; a recursion counts as too deep. */
        private int depth(String method, List<String> open) {
            if (open.contains(method)) {
                return DEEPEST + 1;
            }
            open.add(method);
            int deepest = 0;
            for (String called : calls.getOrDefault(method, Set.of())) {
                deepest = Math.max(deepest, depth(called, open));
            }
            open.remove(open.size() - 1);
            return deepest + 1;
        }

        // ---- exceptions

        @Override
        public Void visitThrow(ThrowTree tree, Void nothing) {
            boolean isNew = tree.getExpression() instanceof NewClassTree;
            obeys(6, "throw new", tree, isNew);
            if (isNew) {
                NewClassTree thrown = (NewClassTree) tree.getExpression();
                obeys(6, "throws " + thrown.getIdentifier(), tree,
                    EXCEPTIONS.contains(thrown.getIdentifier().toString()) && thrown.getClassBody() == null);
                List<? extends ExpressionTree> arguments = thrown.getArguments();
                obeys(6, "a written text", tree, arguments.isEmpty()
                    || arguments.size() == 1 && arguments.get(0).getKind() == Tree.Kind.STRING_LITERAL);
            }
            obeys(6, "no throw in a constructor", tree, !caller().endsWith(".<init>"));
            obeys(6, "no throw in a method with try", tree, !caughtIn(getCurrentPath()));
            return super.visitThrow(tree, nothing);
        }

        private static boolean caughtIn(TreePath path) {
            TreePath method = path;
            while (method != null && !(method.getLeaf() instanceof MethodTree)) {
                method = method.getParentPath();
            }
            return method != null && method.getLeaf().toString().contains("try {");
        }

        @Override
        public Void visitTry(TryTree tree, Void nothing) {
            obeys(6, "no finally, no resources, a catch", tree, tree.getFinallyBlock() == null
                && tree.getResources().isEmpty() && !tree.getCatches().isEmpty());
            for (CatchTree caught : tree.getCatches()) {
                String type = caught.getParameter().getType().toString();
                obeys(6, "catches " + type, caught, EXCEPTIONS.contains(type));
            }
            return super.visitTry(tree, nothing);
        }

        // ---- what may not stand anywhere

        @Override
        public Void visitLambdaExpression(LambdaExpressionTree tree, Void nothing) {
            obeys(2, "no lambda", tree, false);
            return null;
        }

        @Override
        public Void visitMemberReference(MemberReferenceTree tree, Void nothing) {
            obeys(2, "no method reference", tree, false);
            return null;
        }

        @Override
        public Void visitSynchronized(SynchronizedTree tree, Void nothing) {
            obeys(6, "no synchronized", tree, false);
            return null;
        }

        @Override
        public Void visitAssert(AssertTree tree, Void nothing) {
            obeys(6, "no assert", tree, false);
            return null;
        }

        @Override
        public Void visitBinary(BinaryTree tree, Void nothing) {
            boolean isText = isText(tree.getLeftOperand()) || isText(tree.getRightOperand());
            obeys(10, "no + between texts", tree, tree.getKind() != Tree.Kind.PLUS || !isText);
            boolean compares = tree.getKind() == Tree.Kind.EQUAL_TO || tree.getKind() == Tree.Kind.NOT_EQUAL_TO;
            obeys(6, "no == between texts", tree, !compares || !isText);
            return super.visitBinary(tree, nothing);
        }

        @Override
        public Void visitCompoundAssignment(CompoundAssignmentTree tree, Void nothing) {
            obeys(10, "no += of texts", tree, !isText(tree.getVariable()));
            return super.visitCompoundAssignment(tree, nothing);
        }

        private boolean isText(Tree tree) {
            TypeMirror type = type(tree);
            return type != null && type.toString().equals("java.lang.String");
        }
    }
}
