import com.sun.source.tree.*;
import com.sun.source.util.JavacTask;
import com.sun.source.util.SourcePositions;
import com.sun.source.util.TreePath;
import com.sun.source.util.TreePathScanner;
import com.sun.source.util.Trees;
import java.lang.reflect.Array;
import java.lang.reflect.Field;
import java.nio.file.Path;
import java.util.Collections;
import java.util.HashMap;
import java.util.HashSet;
import java.util.IdentityHashMap;
import java.util.List;
import java.util.Map;
import java.util.Set;
import java.util.TreeSet;
import javax.lang.model.element.Element;
import javax.lang.model.element.ElementKind;
import javax.lang.model.element.ExecutableElement;
import javax.lang.model.element.Modifier;
import javax.lang.model.element.TypeElement;
import javax.lang.model.element.VariableElement;
import javax.lang.model.type.ArrayType;
import javax.lang.model.type.DeclaredType;
import javax.lang.model.type.TypeKind;
import javax.lang.model.type.TypeMirror;
import javax.tools.JavaCompiler;
import javax.tools.StandardJavaFileManager;
import javax.tools.ToolProvider;

/** What of LANGUAGE.md can be read off the source: the parts of Java, the library, sizes, and how deep calls go. */
final class RulesTest {
    private static final Set<String> LIBRARY = Set.of("java.lang.Math.min", "java.lang.Math.max", "java.lang.Long.bitCount",
            "java.lang.System.arraycopy", "java.util.Arrays.fill");
    private static final Set<String> THROWN = Set.of("IllegalStateException", "IllegalArgumentException",
            "IndexOutOfBoundsException");
    private static final int DEEPEST = 8;
    /** The room of a run, and how many objects of the class are to fit in, each with its own rows. */
    private static final long ROOM = 7_300_000;
    private static final long ROOM_OBJECTS = 600_000;
    private static final int FITTING = 70;

    private static final Map<ExecutableElement, Set<ExecutableElement>> CALLS = new HashMap<>();
    private static final Map<ExecutableElement, Integer> DEPTHS = new HashMap<>();

    public static void main(String[] args) throws Exception {
        JavaCompiler compiler = ToolProvider.getSystemJavaCompiler();
        try (StandardJavaFileManager files = compiler.getStandardFileManager(null, null, null)) {
            JavacTask task = (JavacTask) compiler.getTask(null, files, null, List.of("-proc:none"), null,
                    files.getJavaFileObjects(Path.of("src/main/java/VersionWorks.java")));
            Iterable<? extends CompilationUnitTree> units = task.parse();
            task.analyze();
            for (CompilationUnitTree unit : units) {
                Due.yes("no package", unit.getPackageName() == null);
                for (ImportTree imported : unit.getImports()) {
                    Due.same("imported", "java.util.Arrays", imported.getQualifiedIdentifier());
                }
                new Reader(Trees.instance(task), unit).scan(unit, null);
            }
        }
        for (ExecutableElement method : CALLS.keySet()) {
            int depth = depth(method, new HashSet<>());
            Due.yes(method.getEnclosingElement() + "." + method + " goes " + depth + " deep", depth <= DEEPEST);
        }
        Due.yes("calls were read", CALLS.size() > 300);
        for (ExecutableElement method : CALLS.keySet()) {
            Due.yes(method + " calls itself with a depth", !CALLS.get(method).contains(method) || method.getParameters()
                    .stream().anyMatch(one -> one.getSimpleName().contentEquals("depth")));
        }
        room();
        Due.end("RulesTest");
    }

    /** What one object holds, its own and all in it: objects and arrays, fields and elements. */
    private static void room() throws IllegalAccessException {
        Set<Object> met = Collections.newSetFromMap(new IdentityHashMap<>());
        long size = measure(new VersionWorks(), met, 0);
        Due.yes(FITTING + " objects of the class fit in the room, one has " + size, size * FITTING <= ROOM);
        Due.yes("so do the objects in it, " + met.size(), met.size() * (long) FITTING <= ROOM_OBJECTS);
    }

    private static long measure(Object of, Set<Object> met, int deep) throws IllegalAccessException {
        if (of == null || deep > 9 || !met.add(of)) {
            return 0;
        }
        long size = 0;
        if (of.getClass().isArray()) {
            for (int k = 0; k < Array.getLength(of); k++) {
                boolean plain = of.getClass().getComponentType().isPrimitive();
                size += 1 + (plain ? 0 : measure(Array.get(of, k), met, deep + 1));
            }
            return size;
        }
        for (Field field : of.getClass().getDeclaredFields()) {
            if (!java.lang.reflect.Modifier.isStatic(field.getModifiers())) {
                field.setAccessible(true);
                size += 1 + (field.getType().isPrimitive() ? 0 : measure(field.get(of), met, deep + 1));
            }
        }
        return size;
    }

    /** Of a method that calls itself the calls to itself do not count; rings of several methods are not allowed here. */
    private static int depth(ExecutableElement method, Set<ExecutableElement> open) {
        Integer known = DEPTHS.get(method);
        if (known != null) {
            return known;
        }
        if (!open.add(method)) {
            Due.yes(method + " is in a ring of calls", false);
            return 0;
        }
        int deepest = 0;
        for (ExecutableElement called : CALLS.getOrDefault(method, Set.of())) {
            if (called != method) {
                deepest = Math.max(deepest, depth(called, open));
            }
        }
        open.remove(method);
        DEPTHS.put(method, deepest + 1);
        return deepest + 1;
    }

    private static final class Reader extends TreePathScanner<Void, Void> {
        private final Trees trees;
        private final CompilationUnitTree unit;
        private final Set<String> classes = new TreeSet<>();

        Reader(Trees trees, CompilationUnitTree unit) {
            this.trees = trees;
            this.unit = unit;
        }

        private long line(Tree tree) {
            return unit.getLineMap().getLineNumber(trees.getSourcePositions().getStartPosition(unit, tree));
        }

        private void refuse(String what, Tree tree) {
            Due.yes("line " + line(tree) + ": " + what, false);
        }

        @Override
        public Void visitClass(ClassTree tree, Void none) {
            classes.add(tree.getSimpleName().toString());
            Due.yes("some twelve classes", classes.size() <= 12);
            int fields = 0;
            for (Tree member : tree.getMembers()) {
                if (member instanceof VariableTree field) {
                    Set<Modifier> modifiers = field.getModifiers().getFlags();
                    boolean constant = modifiers.contains(Modifier.STATIC);
                    fields += constant ? 0 : 1;
                    Due.yes("line " + line(field) + ": a static field is final", !constant || modifiers.contains(Modifier.FINAL));
                }
                if (member instanceof BlockTree) {
                    refuse("an initialiser block", member);
                }
            }
            Due.yes(tree.getSimpleName() + " has some twenty fields: " + fields, fields <= 20);
            return super.visitClass(tree, none);
        }

        @Override
        public Void visitMethod(MethodTree tree, Void none) {
            SourcePositions at = trees.getSourcePositions();
            long lines = unit.getLineMap().getLineNumber(at.getEndPosition(unit, tree)) - line(tree) + 1;
            Due.yes(tree.getName() + " has " + lines + " lines", lines <= 60);
            Due.yes(tree.getName() + " takes at most seven parameters", tree.getParameters().size() <= 7);
            Element method = trees.getElement(getCurrentPath());
            if (method instanceof ExecutableElement element) {
                CALLS.putIfAbsent(element, new HashSet<>());
            }
            return super.visitMethod(tree, none);
        }

        private ExecutableElement inside() {
            for (TreePath path = getCurrentPath(); path != null; path = path.getParentPath()) {
                if (path.getLeaf() instanceof MethodTree) {
                    return (ExecutableElement) trees.getElement(path);
                }
            }
            return null;
        }

        /** Numbers, booleans, classes of the file, and arrays of these: of numbers with two dimensions at the most. */
        private static boolean isAllowed(TypeMirror type) {
            if (type instanceof ArrayType row) {
                TypeMirror of = row.getComponentType();
                return of instanceof ArrayType inner ? isNumber(inner.getComponentType()) : isAllowed(of);
            }
            boolean own = type instanceof DeclaredType known && known.toString().startsWith("VersionWorks");
            return isNumber(type) || type.getKind() == TypeKind.BOOLEAN || type.getKind() == TypeKind.VOID || own;
        }

        private static boolean isNumber(TypeMirror type) {
            return type.getKind() == TypeKind.INT || type.getKind() == TypeKind.LONG;
        }

        @Override
        public Void visitVariable(VariableTree tree, Void none) {
            Element element = trees.getElement(getCurrentPath());
            Due.yes("line " + line(tree) + ": a type of the language", isAllowed(element.asType()));
            boolean still = element.getModifiers().contains(Modifier.STATIC);
            Due.yes("line " + line(tree) + ": what is static is a constant",
                    !still || element instanceof VariableElement one && one.getConstantValue() != null);
            return super.visitVariable(tree, none);
        }

        @Override
        public Void visitLiteral(LiteralTree tree, Void none) {
            boolean text = tree.getValue() instanceof String;
            Due.yes("line " + line(tree) + ": no text", !text);
            Due.yes("line " + line(tree) + ": a sign from 1 to 127",
                    !(tree.getValue() instanceof Character c) || c >= 1 && c <= 127);
            return super.visitLiteral(tree, none);
        }

        private void bounded(ExpressionTree condition, Tree loop) {
            Due.yes("line " + line(loop) + ": the loop has an end", condition != null
                    && !(condition instanceof ParenthesizedTree in && in.getExpression() instanceof LiteralTree)
                    && !(condition instanceof LiteralTree));
        }

        @Override
        public Void visitForLoop(ForLoopTree tree, Void none) {
            bounded(tree.getCondition(), tree);
            return super.visitForLoop(tree, none);
        }

        @Override
        public Void visitWhileLoop(WhileLoopTree tree, Void none) {
            bounded(tree.getCondition(), tree);
            return super.visitWhileLoop(tree, none);
        }

        @Override
        public Void visitDoWhileLoop(DoWhileLoopTree tree, Void none) {
            bounded(tree.getCondition(), tree);
            return super.visitDoWhileLoop(tree, none);
        }

        @Override
        public Void visitMethodInvocation(MethodInvocationTree tree, Void none) {
            Element called = trees.getElement(getCurrentPath());
            if (called instanceof ExecutableElement method) {
                String owner = ((TypeElement) method.getEnclosingElement()).getQualifiedName().toString();
                if (owner.startsWith("VersionWorks")) {
                    ExecutableElement caller = inside();
                    if (caller != null) {
                        CALLS.computeIfAbsent(caller, key -> new HashSet<>()).add(method);
                    }
                    boolean itself = method == caller;
                    Due.yes("line " + line(tree) + ": what calls itself is private and static", !itself
                            || method.getModifiers().containsAll(Set.of(Modifier.PRIVATE, Modifier.STATIC)));
                } else if (method.getKind() == ElementKind.METHOD) {
                    Due.yes("line " + line(tree) + ": " + owner + "." + method.getSimpleName() + " is in the library",
                            LIBRARY.contains(owner + "." + method.getSimpleName()));
                }
            }
            return super.visitMethodInvocation(tree, none);
        }

        @Override
        public Void visitThrow(ThrowTree tree, Void none) {
            boolean known = tree.getExpression() instanceof NewClassTree made
                    && THROWN.contains(made.getIdentifier().toString());
            Due.yes("line " + line(tree) + ": throws new of a known class", known);
            ExecutableElement in = inside();
            Due.yes("line " + line(tree) + ": no throw in a constructor", in != null && in.getKind() == ElementKind.METHOD);
            return super.visitThrow(tree, none);
        }

        @Override
        public Void visitNewClass(NewClassTree tree, Void none) {
            boolean thrown = THROWN.contains(tree.getIdentifier().toString());
            Due.yes("line " + line(tree) + ": objects are made in constructors alone", thrown || inside() == null);
            return super.visitNewClass(tree, none);
        }

        @Override
        public Void visitNewArray(NewArrayTree tree, Void none) {
            Due.yes("line " + line(tree) + ": arrays are made in constructors alone", inside() == null);
            return super.visitNewArray(tree, none);
        }

        @Override
        public Void visitLambdaExpression(LambdaExpressionTree tree, Void none) {
            refuse("a lambda", tree);
            return null;
        }

        @Override
        public Void visitMemberReference(MemberReferenceTree tree, Void none) {
            refuse("a method reference", tree);
            return null;
        }

        @Override
        public Void visitTry(TryTree tree, Void none) {
            refuse("a try", tree);
            return null;
        }

        @Override
        public Void visitSynchronized(SynchronizedTree tree, Void none) {
            refuse("synchronized", tree);
            return null;
        }

        @Override
        public Void visitAssert(AssertTree tree, Void none) {
            refuse("an assert", tree);
            return null;
        }

        @Override
        public Void visitTypeCast(TypeCastTree tree, Void none) {
            Due.yes("line " + line(tree) + ": a cast to a number", tree.getType() instanceof PrimitiveTypeTree);
            return super.visitTypeCast(tree, none);
        }
    }
}
