import com.sun.source.tree.AnnotationTree;
import com.sun.source.tree.ArrayTypeTree;
import com.sun.source.tree.AssertTree;
import com.sun.source.tree.BinaryTree;
import com.sun.source.tree.ClassTree;
import com.sun.source.tree.CompilationUnitTree;
import com.sun.source.tree.CompoundAssignmentTree;
import com.sun.source.tree.ExpressionTree;
import com.sun.source.tree.ForLoopTree;
import com.sun.source.tree.IdentifierTree;
import com.sun.source.tree.ImportTree;
import com.sun.source.tree.LambdaExpressionTree;
import com.sun.source.tree.LiteralTree;
import com.sun.source.tree.MemberReferenceTree;
import com.sun.source.tree.MethodInvocationTree;
import com.sun.source.tree.MethodTree;
import com.sun.source.tree.NewClassTree;
import com.sun.source.tree.SynchronizedTree;
import com.sun.source.tree.ThrowTree;
import com.sun.source.tree.Tree;
import com.sun.source.tree.TryTree;
import com.sun.source.tree.TypeCastTree;
import com.sun.source.tree.VariableTree;
import com.sun.source.tree.WhileLoopTree;
import com.sun.source.util.JavacTask;
import com.sun.source.util.TreePath;
import com.sun.source.util.TreePathScanner;
import com.sun.source.util.Trees;
import java.io.IOException;
import java.nio.file.Files;
import java.nio.file.Path;
import java.util.HashMap;
import java.util.HashSet;
import java.util.List;
import java.util.Map;
import java.util.Set;
import java.util.TreeMap;
import java.util.TreeSet;
import javax.lang.model.element.Element;
import javax.lang.model.element.ElementKind;
import javax.lang.model.element.ExecutableElement;
import javax.lang.model.element.Modifier;
import javax.lang.model.element.TypeElement;
import javax.lang.model.type.ArrayType;
import javax.lang.model.type.TypeKind;
import javax.lang.model.type.TypeMirror;
import javax.tools.JavaCompiler;
import javax.tools.StandardJavaFileManager;
import javax.tools.ToolProvider;

/**
 * Those rules of ../shared/LANGUAGE.md that can be seen from the text of the program, as the compiler reads it. Each
 * finding tells the number of its rule. Rules that speak of runs (7, 9, 12) have tests of their own, as far as they can.
 */
public final class LanguageTest {
    private static final int MOST_PARAMETERS = 7;
    private static final int MOST_LINES = 60;
    private static final int MOST_DEPTH = 8;
    private static final int MOST_CLASSES = 12;
    private static final int MOST_FIELDS = 20;

    private static final Set<String> IMPORTS = Set.of("java.util.Arrays", "java.util.ArrayList", "java.util.List",
            "java.util.Iterator", "java.util.NoSuchElementException");
    private static final Set<String> THROWN = Set.of("IllegalStateException", "IllegalArgumentException",
            "IndexOutOfBoundsException", "ArithmeticException", "UnsupportedOperationException",
            "NoSuchElementException", "RuntimeException");
    private static final Set<String> TYPES = Set.of("int", "long", "short", "byte", "char", "boolean", "double", "float",
            "void", "java.lang.String", "java.lang.StringBuilder", "java.lang.Integer");

    /** Rule 4: what may be called of each class of the library; of Integer, Long and Math all that is not Exact. */
    private static final Map<String, Set<String>> LIBRARY = Map.of(
            "java.lang.String", Set.of("length", "charAt", "isEmpty", "equals", "indexOf", "substring", "toCharArray"),
            "java.lang.StringBuilder", Set.of("append", "charAt", "setCharAt", "setLength", "deleteCharAt", "reverse",
                    "length", "toString"),
            "java.util.ArrayList", Set.of("add", "get", "set", "remove", "size", "isEmpty", "clear"),
            "java.util.List", Set.of("add", "get", "set", "remove", "size", "isEmpty", "clear", "of"),
            "java.lang.System", Set.of("arraycopy"),
            "java.util.Arrays", Set.of("copyOf", "copyOfRange", "fill"),
            "java.lang.Object", Set.of("clone"));

    private final Trees trees;
    private final JavacTask task;
    private final CompilationUnitTree unit;
    private final Map<ExecutableElement, Set<ExecutableElement>> calls = new HashMap<>();
    private final Set<ExecutableElement> throwing = new HashSet<>();
    private final TreeSet<String> findings = new TreeSet<>();
    private int seen = 0;

    private LanguageTest(JavacTask task) throws IOException {
        this.task = task;
        this.trees = Trees.instance(task);
        this.unit = task.parse().iterator().next();
        task.analyze();
    }

    public static void main(String[] args) throws IOException {
        Path root = Path.of(args.length > 0 ? args[0] : ".");
        Path program = root.resolve("src/main/java/OrderedCast.java");
        JavaCompiler compiler = ToolProvider.getSystemJavaCompiler();
        try (StandardJavaFileManager files = compiler.getStandardFileManager(null, null, null)) {
            LanguageTest test = new LanguageTest((JavacTask) compiler.getTask(null, files, null,
                    List.of("--release", "17", "-proc:none"), null, files.getJavaFileObjects(program)));
            test.look();
            Checks.due("what is outside LANGUAGE.md", test.findings, new TreeSet<String>());
            Checks.due("the text was read", test.seen > 500 && test.calls.size() > 60 ? 1 : 0, 1);
        }
        Checks.due("signs beyond 127", Files.readString(program).chars().filter(c -> c > 127).count(), 0);
        Checks.end("language");
    }

    private void look() {
        rule(2, "a package line", unit.getPackageName() != null);
        rule(2, "one class", unit.getTypeDecls().size() != 1);
        for (ImportTree one : unit.getImports()) {
            rule(4, "import " + one.getQualifiedIdentifier(), !IMPORTS.contains(one.getQualifiedIdentifier().toString()));
        }
        new Reader().scan(unit, null);
        overridden();
        Set<String> face = new TreeSet<>();
        calls.keySet().stream().filter(one -> one.getModifiers().contains(Modifier.PUBLIC))
                .forEach(one -> face.add(one.getSimpleName().toString()));
        for (ExecutableElement one : calls.keySet()) {
            boolean hidden = !one.getModifiers().contains(Modifier.PUBLIC) && one.getKind() == ElementKind.METHOD;
            rule(1, one + " bears the name of a public one", hidden && face.contains(one.getSimpleName().toString()));
            rule(11, "calls from " + one + " go too deep", depth(one, new HashSet<>()) > MOST_DEPTH);
        }
    }

    private void rule(int number, String what, boolean broken) {
        seen++;
        if (broken) {
            findings.add("rule " + number + ": " + what);
        }
    }

    /** A call of a method that others override may go to each of these. */
    private void overridden() {
        for (ExecutableElement one : Set.copyOf(calls.keySet())) {
            for (ExecutableElement other : calls.keySet()) {
                if (one != other && one.getKind() == ElementKind.METHOD
                        && task.getElements().overrides(other, one, (TypeElement) other.getEnclosingElement())) {
                    calls.get(one).add(other);
                }
            }
        }
    }

    private int depth(ExecutableElement from, Set<ExecutableElement> above) {
        int deepest = 0;
        rule(8, from + " calls itself, or is called by what it calls", !above.add(from));
        if (above.size() <= 2 * MOST_DEPTH && findings.isEmpty()) {
            for (ExecutableElement to : calls.getOrDefault(from, Set.of())) {
                deepest = Math.max(deepest, depth(to, above));
            }
        }
        above.remove(from);
        // What is abstract is no call of its own, only those that override it are.
        return from.getModifiers().contains(Modifier.ABSTRACT) ? deepest : deepest + 1;
    }

    private final class Reader extends TreePathScanner<Void, Void> {
        private ExecutableElement method;
        private final Map<Element, Integer> fields = new TreeMap<>((a, b) -> a.toString().compareTo(b.toString()));

        @Override
        public Void visitCompilationUnit(CompilationUnitTree tree, Void none) {
            super.visitCompilationUnit(tree, none);
            rule(11, "too many classes", fields.size() > MOST_CLASSES);
            fields.forEach((one, count) -> rule(11, one + " has too many fields", count > MOST_FIELDS));
            return null;
        }

        @Override
        public Void visitClass(ClassTree tree, Void none) {
            Element own = trees.getElement(getCurrentPath());
            fields.put(own, 0);
            boolean inside = own.getEnclosingElement().getKind() == ElementKind.CLASS;
            rule(2, own + " is not static", inside && !own.getModifiers().contains(Modifier.STATIC));
            for (Tree member : tree.getMembers()) {
                rule(5, "a static initialiser", member.getKind() == Tree.Kind.BLOCK);
            }
            return super.visitClass(tree, none);
        }

        @Override
        public Void visitMethod(MethodTree tree, Void none) {
            method = (ExecutableElement) trees.getElement(getCurrentPath());
            calls.computeIfAbsent(method, key -> new HashSet<>());
            rule(11, method + " takes too much", tree.getParameters().size() > MOST_PARAMETERS);
            long start = line(trees.getSourcePositions().getStartPosition(unit, tree));
            long end = line(trees.getSourcePositions().getEndPosition(unit, tree));
            rule(11, method + " is too long", end - start > MOST_LINES);
            rule(6, method + " of every object", Set.of("equals", "hashCode", "toString").contains(tree.getName().toString()));
            boolean isFinal = method.getModifiers().contains(Modifier.FINAL) || method.getModifiers().contains(Modifier.PRIVATE);
            rule(1, method + " is protected", method.getModifiers().contains(Modifier.PROTECTED) && !isFinal);
            type(method + "", method.getReturnType());
            super.visitMethod(tree, none);
            method = null;
            return null;
        }

        private long line(long position) {
            return unit.getLineMap().getLineNumber(position);
        }

        @Override
        public Void visitVariable(VariableTree tree, Void none) {
            Element own = trees.getElement(getCurrentPath());
            type(own + "", own.asType());
            if (own.getKind() == ElementKind.FIELD) {
                boolean isStatic = own.getModifiers().contains(Modifier.STATIC);
                rule(5, own + " is static and not final", isStatic && !own.getModifiers().contains(Modifier.FINAL));
                rule(5, own + " is static and no constant", isStatic && own.asType().getKind() != TypeKind.INT);
                rule(1, own + " is protected", own.getModifiers().contains(Modifier.PROTECTED));
                fields.merge(own.getEnclosingElement(), isStatic ? 0 : 1, Integer::sum);
            }
            return super.visitVariable(tree, none);
        }

        /** Rule 3: arrays of one dimension, of two of numbers alone. */
        private void type(String what, TypeMirror type) {
            TypeMirror element = type;
            int dimensions = 0;
            while (element instanceof ArrayType array) {
                element = array.getComponentType();
                dimensions++;
            }
            String name = element.toString().replaceAll("<.*", "");
            boolean ownClass = name.startsWith("OrderedCast");
            boolean list = name.equals("java.util.List") || name.equals("java.util.ArrayList");
            rule(3, what + " is of " + type, !TYPES.contains(name) && !ownClass && !list);
            rule(3, what + " has dimensions " + dimensions, dimensions > 2 || dimensions == 2 && !element.getKind().isPrimitive());
        }

        @Override
        public Void visitMethodInvocation(MethodInvocationTree tree, Void none) {
            ExecutableElement called = (ExecutableElement) trees.getElement(getCurrentPath());
            String owner = called.getEnclosingElement().toString();
            if (owner.startsWith("OrderedCast")) {
                called(called);
            } else if (called.getKind() == ElementKind.METHOD) {
                boolean number = Set.of("java.lang.Integer", "java.lang.Long", "java.lang.Math").contains(owner)
                        && called.getModifiers().contains(Modifier.STATIC) && !called.getSimpleName().toString().endsWith("Exact");
                boolean listed = LIBRARY.getOrDefault(owner, Set.of()).contains(called.getSimpleName().toString());
                rule(4, owner + "." + called, !number && !listed);
                called.getParameters().forEach(one -> rule(3, called + "", number
                        && Set.of("double", "float").contains(one.asType().toString())));
            }
            boolean chained = tree.getMethodSelect().toString().matches("this|super");
            boolean ownMethod = tree.getMethodSelect() instanceof IdentifierTree && !called.getModifiers().contains(Modifier.STATIC);
            rule(12, "a constructor calls " + called, isConstructor() && ownMethod && !chained);
            handsOut(tree.getArguments());
            return super.visitMethodInvocation(tree, none);
        }

        private boolean isConstructor() {
            return method != null && method.getKind() == ElementKind.CONSTRUCTOR;
        }

        private void called(ExecutableElement called) {
            if (method != null) {
                calls.get(method).add(called);
            }
        }

        @Override
        public Void visitNewClass(NewClassTree tree, Void none) {
            ExecutableElement made = (ExecutableElement) trees.getElement(getCurrentPath());
            called(made);
            handsOut(tree.getArguments());
            rule(4, "an object of " + tree.getIdentifier(), !made.getEnclosingElement().toString().startsWith("OrderedCast")
                    && !THROWN.contains(tree.getIdentifier().toString())
                    && !tree.getIdentifier().toString().matches("String|StringBuilder|ArrayList<.*>"));
            return super.visitNewClass(tree, none);
        }

        private void handsOut(List<? extends ExpressionTree> arguments) {
            for (ExpressionTree argument : arguments) {
                rule(12, "a constructor hands out itself", isConstructor() && argument.toString().equals("this"));
            }
        }

        @Override
        public Void visitThrow(ThrowTree tree, Void none) {
            boolean right = tree.getExpression() instanceof NewClassTree made
                    && THROWN.contains(made.getIdentifier().toString())
                    && (made.getArguments().isEmpty() || made.getArguments().size() == 1
                    && made.getArguments().get(0) instanceof LiteralTree);
            rule(6, tree + "", !right);
            rule(6, "a constructor throws", isConstructor());
            throwing.add(method);
            return super.visitThrow(tree, none);
        }

        @Override
        public Void visitTry(TryTree tree, Void none) {
            rule(6, "finally, or try with resources", tree.getFinallyBlock() != null || !tree.getResources().isEmpty());
            rule(6, method + " throws and catches", throwing.contains(method));
            return super.visitTry(tree, none);
        }

        @Override
        public Void visitBinary(BinaryTree tree, Void none) {
            boolean text = tree.getKind() == Tree.Kind.PLUS && (isText(tree.getLeftOperand()) || isText(tree.getRightOperand()));
            rule(10, "texts joined: " + tree, text);
            boolean same = tree.getKind() == Tree.Kind.EQUAL_TO || tree.getKind() == Tree.Kind.NOT_EQUAL_TO;
            rule(6, "texts or Integers compared: " + tree, same && isNoOwn(tree.getLeftOperand()) && isNoOwn(tree.getRightOperand()));
            return super.visitBinary(tree, none);
        }

        @Override
        public Void visitCompoundAssignment(CompoundAssignmentTree tree, Void none) {
            rule(10, "texts joined: " + tree, isText(tree.getVariable()));
            return super.visitCompoundAssignment(tree, none);
        }

        private boolean isText(ExpressionTree tree) {
            TypeMirror type = trees.getTypeMirror(new TreePath(getCurrentPath(), tree));
            return type != null && type.toString().equals("java.lang.String");
        }

        private boolean isNoOwn(ExpressionTree tree) {
            TypeMirror type = trees.getTypeMirror(new TreePath(getCurrentPath(), tree));
            return type != null && Set.of("java.lang.String", "java.lang.Integer").contains(type.toString());
        }

        @Override
        public Void visitForLoop(ForLoopTree tree, Void none) {
            rule(9, "a loop without an end", tree.getCondition() == null);
            return super.visitForLoop(tree, none);
        }

        @Override
        public Void visitWhileLoop(WhileLoopTree tree, Void none) {
            rule(9, "a loop without an end", tree.getCondition().toString().equals("(true)"));
            return super.visitWhileLoop(tree, none);
        }

        @Override
        public Void visitArrayType(ArrayTypeTree tree, Void none) {
            rule(3, "arrays of arrays of arrays", tree.getType() instanceof ArrayTypeTree two && two.getType() instanceof ArrayTypeTree);
            return super.visitArrayType(tree, none);
        }

        @Override
        public Void visitTypeCast(TypeCastTree tree, Void none) {
            TypeMirror type = trees.getTypeMirror(new TreePath(getCurrentPath(), tree.getType()));
            rule(6, "a cast that may throw: " + tree, type != null && !type.getKind().isPrimitive());
            return super.visitTypeCast(tree, none);
        }

        @Override
        public Void visitAnnotation(AnnotationTree tree, Void none) {
            rule(4, tree + "", true);
            return super.visitAnnotation(tree, none);
        }

        @Override
        public Void visitLambdaExpression(LambdaExpressionTree tree, Void none) {
            rule(2, tree + "", true);
            return super.visitLambdaExpression(tree, none);
        }

        @Override
        public Void visitMemberReference(MemberReferenceTree tree, Void none) {
            rule(2, tree + "", true);
            return super.visitMemberReference(tree, none);
        }

        @Override
        public Void visitSynchronized(SynchronizedTree tree, Void none) {
            rule(6, "synchronized", true);
            return super.visitSynchronized(tree, none);
        }

        @Override
        public Void visitAssert(AssertTree tree, Void none) {
            rule(6, "assert", true);
            return super.visitAssert(tree, none);
        }
    }
}
