import com.sun.source.tree.AssertTree;
import com.sun.source.tree.BinaryTree;
import com.sun.source.tree.CatchTree;
import com.sun.source.tree.ClassTree;
import com.sun.source.tree.CompilationUnitTree;
import com.sun.source.tree.DoWhileLoopTree;
import com.sun.source.tree.EnhancedForLoopTree;
import com.sun.source.tree.ForLoopTree;
import com.sun.source.tree.IdentifierTree;
import com.sun.source.tree.LambdaExpressionTree;
import com.sun.source.tree.MemberReferenceTree;
import com.sun.source.tree.MemberSelectTree;
import com.sun.source.tree.MethodInvocationTree;
import com.sun.source.tree.MethodTree;
import com.sun.source.tree.NewClassTree;
import com.sun.source.tree.SynchronizedTree;
import com.sun.source.tree.ThrowTree;
import com.sun.source.tree.Tree;
import com.sun.source.tree.TryTree;
import com.sun.source.tree.TypeCastTree;
import com.sun.source.tree.VariableTree;
import com.sun.source.tree.WhileLoopTree;
import com.sun.source.util.JavacTask;
import com.sun.source.util.TreePath;
import com.sun.source.util.TreePathScanner;
import com.sun.source.util.Trees;
import java.io.File;
import java.util.ArrayList;
import java.util.HashMap;
import java.util.HashSet;
import java.util.LinkedHashMap;
import java.util.LinkedHashSet;
import java.util.List;
import java.util.Map;
import java.util.Set;
import javax.lang.model.element.Element;
import javax.lang.model.element.ElementKind;
import javax.lang.model.element.ExecutableElement;
import javax.lang.model.element.Modifier;
import javax.lang.model.element.TypeElement;
import javax.lang.model.element.VariableElement;
import javax.lang.model.type.ArrayType;
import javax.lang.model.type.DeclaredType;
import javax.lang.model.type.TypeKind;
import javax.lang.model.type.TypeMirror;
import javax.tools.JavaCompiler;
import javax.tools.StandardJavaFileManager;
import javax.tools.ToolProvider;

/**
 * LANGUAGE.md, read off of the source as the compiler sees it: types, what of the library is called, loops, recursion,
 * and how deep calls go (constructors are counted, and a method that is overridden is followed for each class).
 */
public final class LanguageTest {
    private static final String SOURCE = "src/main/java/GreyDays.java";
    private static final Set<String> LIBRARY = Set.of("java.lang.Object.<init>", "java.lang.System.arraycopy",
        "java.util.Arrays.fill", "java.util.Arrays.copyOf", "java.util.Arrays.copyOfRange", "java.lang.Integer.bitCount",
        "java.lang.Math.min", "java.lang.Math.max", "java.lang.Math.abs");
    private static final Set<String> RECURSIVE = Set.of("fillDyes");
    private static final int DEEPEST = 8;

    private static int wrong = 0;

    private static void hold(boolean holds, String what) {
        if (!holds) {
            wrong++;
            System.out.println("does not hold: " + what);
        }
    }

    /** A call as it stands in a body: on the object itself, by super, or on one of a told class. */
    private record Call(ExecutableElement target, boolean onItself, boolean bySuper) { }

    /** A body that runs on an object of a class (null: of none). */
    private record Running(ExecutableElement body, TypeElement of) { }

    private static final Map<ExecutableElement, List<Call>> CALLS = new LinkedHashMap<>();
    private static final Set<TypeElement> CLASSES = new LinkedHashSet<>();
    private static final Map<Running, Integer> DEPTHS = new HashMap<>();
    private static final Set<Running> OPEN = new HashSet<>();

    public static void main(String[] args) throws Exception {
        JavaCompiler compiler = ToolProvider.getSystemJavaCompiler();
        StandardJavaFileManager files = compiler.getStandardFileManager(null, null, null);
        JavacTask task = (JavacTask) compiler.getTask(null, files, null, List.of("-proc:none"), null,
            files.getJavaFileObjects(new File(SOURCE)));
        Iterable<? extends CompilationUnitTree> units = task.parse();
        task.analyze();
        for (CompilationUnitTree unit : units) {
            new Reader(Trees.instance(task), unit).scan(unit, null);
        }
        int deepest = depths();
        System.out.println("LanguageTest: " + CLASSES.size() + " classes, " + CALLS.size() + " bodies, calls go "
            + deepest + " deep, " + wrong + " wrong");
        if (wrong != 0 || CALLS.size() < 40) {
            System.exit(1);
        }
    }

    private static int depths() {
        int deepest = 0;
        for (ExecutableElement body : List.copyOf(CALLS.keySet())) {
            if (body.getModifiers().contains(Modifier.PUBLIC)) {
                int depth = depth(new Running(body, (TypeElement) body.getEnclosingElement()));
                hold(depth <= DEEPEST, body + " goes " + depth + " deep");
                deepest = Math.max(deepest, depth);
            }
        }
        return deepest;
    }

    private static int depth(Running running) {
        Integer known = DEPTHS.get(running);
        if (known != null) {
            return known;
        }
        if (!OPEN.add(running)) {
            String name = running.body().getSimpleName().toString();
            hold(RECURSIVE.contains(name), name + " calls itself, and has no guard that this test knows");
            return 0;
        }
        int deepest = 0;
        for (Call call : CALLS.getOrDefault(running.body(), List.of())) {
            for (Running next : follow(call, running)) {
                deepest = Math.max(deepest, depth(next));
            }
        }
        OPEN.remove(running);
        DEPTHS.put(running, deepest + 1);
        return deepest + 1;
    }

    private static List<Running> follow(Call call, Running from) {
        ExecutableElement target = call.target();
        TypeElement owner = (TypeElement) target.getEnclosingElement();
        boolean isFixed = target.getKind() == ElementKind.CONSTRUCTOR || call.bySuper()
            || target.getModifiers().contains(Modifier.STATIC);
        if (!CLASSES.contains(owner)) {
            return List.of();
        }
        if (isFixed) {
            return List.of(new Running(target, call.onItself() || call.bySuper() ? from.of() : owner));
        }
        List<Running> all = new ArrayList<>();
        for (TypeElement of : call.onItself() ? Set.of(from.of()) : CLASSES) {
            ExecutableElement body = isA(of, owner) ? bodyFor(of, target) : null;
            if (body != null) {
                all.add(new Running(body, of));
            }
        }
        return all;
    }

    private static TypeElement above(TypeElement type) {
        return type.getSuperclass() instanceof DeclaredType d ? (TypeElement) d.asElement() : null;
    }

    private static boolean isA(TypeElement type, TypeElement wanted) {
        for (TypeElement t = type; t != null; t = above(t)) {
            if (t.equals(wanted)) {
                return true;
            }
        }
        return false;
    }

    private static ExecutableElement bodyFor(TypeElement of, ExecutableElement target) {
        for (TypeElement t = of; t != null; t = above(t)) {
            for (Element e : t.getEnclosedElements()) {
                if (e instanceof ExecutableElement m && m.getSimpleName().equals(target.getSimpleName())
                    && m.getParameters().size() == target.getParameters().size()) {
                    return m.getModifiers().contains(Modifier.ABSTRACT) || of.getModifiers().contains(Modifier.ABSTRACT)
                        ? null : m;
                }
            }
        }
        return null;
    }

    private static final class Reader extends TreePathScanner<Void, Void> {
        private final Trees trees;
        private final CompilationUnitTree unit;
        private ExecutableElement body;

        Reader(Trees trees, CompilationUnitTree unit) {
            this.trees = trees;
            this.unit = unit;
        }

        private String at(Tree tree) {
            long start = trees.getSourcePositions().getStartPosition(unit, tree);
            return " (line " + (start < 0 ? 0 : unit.getLineMap().getLineNumber(start)) + ")";
        }

        private void never(Tree tree, String what) {
            hold(false, "no " + what + at(tree));
        }

        @Override
        public Void visitClass(ClassTree tree, Void v) {
            TypeElement type = (TypeElement) trees.getElement(getCurrentPath());
            boolean isOuter = type.getEnclosingElement().getKind() == ElementKind.PACKAGE;
            CLASSES.add(type);
            hold(isOuter || type.getModifiers().contains(Modifier.STATIC), type + " is static");
            hold(isOuter || type.getModifiers().contains(Modifier.PRIVATE), type + " is private");
            hold(isOuter || type.getEnclosingElement().getKind() == ElementKind.CLASS, type + " is no local one");
            hold(type.getSimpleName().length() > 0, "no class without a name" + at(tree));
            hold(CLASSES.size() <= 12, "some twelve classes at most");
            return super.visitClass(tree, v);
        }

        @Override
        public Void visitMethod(MethodTree tree, Void v) {
            ExecutableElement outer = body;
            body = (ExecutableElement) trees.getElement(getCurrentPath());
            CALLS.put(body, new ArrayList<>());
            hold(tree.getParameters().size() <= 7, body + " takes seven at most");
            hold(tree.getThrows().isEmpty(), body + " tells of no throw");
            type(body.getReturnType(), tree);
            long first = trees.getSourcePositions().getStartPosition(unit, tree);
            long last = trees.getSourcePositions().getEndPosition(unit, tree);
            if (first >= 0 && last > first) {
                long lines = unit.getLineMap().getLineNumber(last) - unit.getLineMap().getLineNumber(first) + 1;
                hold(lines <= 60, body + " has sixty lines at most");
            }
            super.visitMethod(tree, v);
            body = outer;
            return null;
        }

        @Override
        public Void visitVariable(VariableTree tree, Void v) {
            VariableElement variable = (VariableElement) trees.getElement(getCurrentPath());
            type(variable.asType(), tree);
            if (variable.getModifiers().contains(Modifier.STATIC)) {
                hold(variable.getModifiers().contains(Modifier.FINAL), variable + " is final");
                hold(variable.getConstantValue() != null, variable + " is a constant");
            }
            return super.visitVariable(tree, v);
        }

        private void type(TypeMirror type, Tree tree) {
            if (type instanceof ArrayType one) {
                TypeMirror of = one.getComponentType();
                boolean isTwo = of instanceof ArrayType;
                TypeMirror leaf = isTwo ? ((ArrayType) of).getComponentType() : of;
                hold(leaf.getKind() != TypeKind.ARRAY, "two dimensions at most" + at(tree));
                hold(!isTwo || leaf.getKind().isPrimitive(), "two dimensions of numbers alone" + at(tree));
                type(leaf, tree);
            } else if (type instanceof DeclaredType declared) {
                String name = declared.asElement().toString();
                hold(name.startsWith("GreyDays") || name.equals("java.lang.String"), name + " is a type that may be" + at(tree));
            } else {
                hold(type.getKind().isPrimitive() || type.getKind() == TypeKind.VOID, type + " may be" + at(tree));
                hold(type.getKind() != TypeKind.DOUBLE && type.getKind() != TypeKind.FLOAT, "nothing is cut" + at(tree));
            }
        }

        @Override
        public Void visitMethodInvocation(MethodInvocationTree tree, Void v) {
            Element target = trees.getElement(new TreePath(getCurrentPath(), tree.getMethodSelect()));
            Tree on = tree.getMethodSelect() instanceof MemberSelectTree s ? s.getExpression() : null;
            String word = on instanceof IdentifierTree i ? i.getName().toString() : "";
            boolean toConstructor = target.getKind() == ElementKind.CONSTRUCTOR;
            called((ExecutableElement) target, on == null || word.equals("this"), word.equals("super") || toConstructor, tree);
            return super.visitMethodInvocation(tree, v);
        }

        @Override
        public Void visitNewClass(NewClassTree tree, Void v) {
            hold(tree.getClassBody() == null, "no class without a name" + at(tree));
            called((ExecutableElement) trees.getElement(getCurrentPath()), false, false, tree);
            return super.visitNewClass(tree, v);
        }

        private void called(ExecutableElement target, boolean onItself, boolean bySuper, Tree tree) {
            String name = target.getEnclosingElement() + "." + target.getSimpleName();
            hold(name.startsWith("GreyDays") || LIBRARY.contains(name), name + " is of the library that may be called" + at(tree));
            hold(body != null, "a call stands in a body" + at(tree) + ": it would not be followed");
            if (body != null) {
                CALLS.get(body).add(new Call(target, onItself, bySuper));
                boolean inConstructor = body.getKind() == ElementKind.CONSTRUCTOR;
                hold(!inConstructor || bySuper || !onItself, "a constructor calls no method of its object" + at(tree));
            }
        }

        @Override
        public Void visitTypeCast(TypeCastTree tree, Void v) {
            hold(tree.getType().getKind() == Tree.Kind.PRIMITIVE_TYPE, "casts of numbers alone" + at(tree));
            return super.visitTypeCast(tree, v);
        }

        @Override
        public Void visitBinary(BinaryTree tree, Void v) {
            TypeMirror left = trees.getTypeMirror(new TreePath(getCurrentPath(), tree.getLeftOperand()));
            TypeMirror right = trees.getTypeMirror(new TreePath(getCurrentPath(), tree.getRightOperand()));
            boolean isText = left.toString().equals("java.lang.String") || right.toString().equals("java.lang.String");
            hold(!isText, "no text is joined or compared by a sign" + at(tree));
            return super.visitBinary(tree, v);
        }

        @Override
        public Void visitForLoop(ForLoopTree tree, Void v) {
            boolean isCounted = tree.getInitializer().size() == 1 && tree.getUpdate().size() == 1
                && tree.getCondition() != null && tree.getInitializer().get(0) instanceof VariableTree first
                && tree.getUpdate().get(0).toString().matches(first.getName() + "(\\+\\+|--);?")
                && tree.getCondition().toString().matches("\\(*" + first.getName() + " (<|<=|>) .*");
            hold(isCounted, "a loop is counted against a bound" + at(tree));
            String counter = isCounted ? ((VariableTree) tree.getInitializer().get(0)).getName().toString() : "";
            hold(!tree.getStatement().toString().matches("(?s).*\\b" + counter + "( [-+*/%&|^]?= |\\+\\+|--).*"),
                "a loop's counter is left alone within it" + at(tree));
            return super.visitForLoop(tree, v);
        }

        @Override
        public Void visitWhileLoop(WhileLoopTree tree, Void v) {
            never(tree, "while: a counter's bound can be seen at once");
            return super.visitWhileLoop(tree, v);
        }

        @Override
        public Void visitDoWhileLoop(DoWhileLoopTree tree, Void v) {
            never(tree, "do: a counter's bound can be seen at once");
            return super.visitDoWhileLoop(tree, v);
        }

        @Override
        public Void visitEnhancedForLoop(EnhancedForLoopTree tree, Void v) {
            hold(trees.getTypeMirror(new TreePath(getCurrentPath(), tree.getExpression())).getKind() == TypeKind.ARRAY,
                "for over arrays alone" + at(tree));
            return super.visitEnhancedForLoop(tree, v);
        }

        @Override
        public Void visitThrow(ThrowTree tree, Void v) {
            never(tree, "throw");
            return super.visitThrow(tree, v);
        }

        @Override
        public Void visitTry(TryTree tree, Void v) {
            never(tree, "try");
            return super.visitTry(tree, v);
        }

        @Override
        public Void visitCatch(CatchTree tree, Void v) {
            never(tree, "catch");
            return super.visitCatch(tree, v);
        }

        @Override
        public Void visitSynchronized(SynchronizedTree tree, Void v) {
            never(tree, "synchronized");
            return super.visitSynchronized(tree, v);
        }

        @Override
        public Void visitAssert(AssertTree tree, Void v) {
            never(tree, "assert");
            return super.visitAssert(tree, v);
        }

        @Override
        public Void visitLambdaExpression(LambdaExpressionTree tree, Void v) {
            never(tree, "lambda");
            return super.visitLambdaExpression(tree, v);
        }

        @Override
        public Void visitMemberReference(MemberReferenceTree tree, Void v) {
            never(tree, "method reference");
            return super.visitMemberReference(tree, v);
        }
    }
}
