import com.sun.source.tree.CatchTree;
import com.sun.source.tree.ClassTree;
import com.sun.source.tree.CompilationUnitTree;
import com.sun.source.tree.DoWhileLoopTree;
import com.sun.source.tree.ForLoopTree;
import com.sun.source.tree.LambdaExpressionTree;
import com.sun.source.tree.MemberReferenceTree;
import com.sun.source.tree.MethodInvocationTree;
import com.sun.source.tree.MethodTree;
import com.sun.source.tree.NewArrayTree;
import com.sun.source.tree.NewClassTree;
import com.sun.source.tree.ThrowTree;
import com.sun.source.tree.Tree;
import com.sun.source.tree.TypeCastTree;
import com.sun.source.tree.VariableTree;
import com.sun.source.tree.WhileLoopTree;
import com.sun.source.util.JavacTask;
import com.sun.source.util.TreePath;
import com.sun.source.util.TreePathScanner;
import com.sun.source.util.Trees;
import java.nio.file.Path;
import java.util.HashMap;
import java.util.LinkedHashSet;
import java.util.Map;
import java.util.Set;
import java.util.TreeSet;
import javax.lang.model.element.Element;
import javax.lang.model.element.ElementKind;
import javax.lang.model.element.ExecutableElement;
import javax.lang.model.element.Modifier;
import javax.lang.model.element.TypeElement;
import javax.lang.model.type.ArrayType;
import javax.lang.model.type.DeclaredType;
import javax.lang.model.type.TypeKind;
import javax.lang.model.type.TypeMirror;
import javax.tools.JavaCompiler;
import javax.tools.StandardJavaFileManager;
import javax.tools.ToolProvider;

/**
 * The rules of LANGUAGE.md that the compiler's own look at the program shows: what it calls and makes, how deep its
 * calls go, the types that it uses, where it throws, and that each of its loops has a condition.
 * Arguments: the path of the program.
 */
public final class Rules extends TreePathScanner<Void, Void> {
    /** Rule 4: what the program may call of the library, by class and method. */
    private static final Set<String> LIBRARY = Set.of(
        "ArrayList.add", "ArrayList.get", "ArrayList.set", "ArrayList.remove", "ArrayList.size", "ArrayList.isEmpty",
        "ArrayList.clear", "Math.abs", "Math.max", "Math.min", "Math.floorDiv", "Math.floorMod", "Integer.bitCount",
        "Integer.compare", "Long.bitCount", "Long.compare", "System.arraycopy", "Arrays.copyOf",
        "Arrays.copyOfRange", "Arrays.fill");
    /** Rules 4 and 6: what it may make of the library. */
    private static final Set<String> MADE = Set.of(
        "ArrayList", "IllegalStateException", "IllegalArgumentException", "IndexOutOfBoundsException",
        "ArithmeticException", "UnsupportedOperationException", "NoSuchElementException");
    private static final int DEEPEST = 8;
    private static final int LONGEST = 60;
    private static final int PARAMETERS = 7;
    private static final int CLASSES = 12;
    private static final int FIELDS = 20;

    private final Trees trees;
    private final CompilationUnitTree unit;
    private final Map<Element, Set<Element>> calls = new HashMap<>();
    private final Map<Element, Integer> depths = new HashMap<>();
    private final Set<String> wrong = new TreeSet<>();
    private ExecutableElement current;
    private int classes;

    private Rules(Trees trees, CompilationUnitTree unit) {
        this.trees = trees;
        this.unit = unit;
    }

    private void due(boolean isSo, Tree at, String what) {
        if (isSo) return;
        long line = unit.getLineMap().getLineNumber(trees.getSourcePositions().getStartPosition(unit, at));
        wrong.add("line " + line + ": " + what);
    }

    private static boolean isOwn(Element element) {
        for (Element at = element; at != null; at = at.getEnclosingElement()) {
            if (at.getSimpleName().contentEquals("ModedMill")) return true;
        }
        return false;
    }

    private void call(Element called, Tree at, boolean isMade) {
        if (called == null || called.getSimpleName().contentEquals("super")) return;
        Element owner = called.getEnclosingElement();
        boolean isMother = owner.getSimpleName().contentEquals("Object");
        if (isOwn(called)) {
            if (current != null) calls.computeIfAbsent(current, key -> new LinkedHashSet<>()).add(called);
        } else if (isMade) {
            due(MADE.contains(owner.getSimpleName().toString()), at, "makes " + owner);
        } else if (!isMother) {
            due(LIBRARY.contains(owner.getSimpleName() + "." + called.getSimpleName()), at, "calls " + called);
        }
    }

    @Override
    public Void visitMethodInvocation(MethodInvocationTree tree, Void none) {
        call(trees.getElement(new TreePath(getCurrentPath(), tree.getMethodSelect())), tree, false);
        return super.visitMethodInvocation(tree, none);
    }

    @Override
    public Void visitNewClass(NewClassTree tree, Void none) {
        call(trees.getElement(getCurrentPath()), tree, true);
        due(tree.getClassBody() == null, tree, "an anonymous class");
        return super.visitNewClass(tree, none);
    }

    @Override
    public Void visitClass(ClassTree tree, Void none) {
        Element element = trees.getElement(getCurrentPath());
        classes++;
        due(element.getEnclosingElement().getKind() != ElementKind.METHOD, tree, "a local class");
        int fields = 0;
        for (Tree member : tree.getMembers()) {
            if (member.getKind() == Tree.Kind.BLOCK) due(false, member, "a block beside the methods");
            if (!(member instanceof VariableTree)) continue;
            Set<Modifier> modifiers = ((VariableTree) member).getModifiers().getFlags();
            boolean isStatic = modifiers.contains(Modifier.STATIC);
            due(!isStatic || modifiers.contains(Modifier.FINAL), member, "a static field that can change");
            fields += isStatic ? 0 : 1;
        }
        due(fields <= FIELDS, tree, fields + " fields");
        return super.visitClass(tree, none);
    }

    @Override
    public Void visitMethod(MethodTree tree, Void none) {
        ExecutableElement before = current;
        current = (ExecutableElement) trees.getElement(getCurrentPath());
        due(tree.getParameters().size() <= PARAMETERS, tree, "too many parameters");
        long from = trees.getSourcePositions().getStartPosition(unit, tree);
        long to = trees.getSourcePositions().getEndPosition(unit, tree);
        long lines = unit.getLineMap().getLineNumber(to) - unit.getLineMap().getLineNumber(Math.max(0, from)) + 1;
        due(from < 0 || lines <= LONGEST, tree, "a method of " + lines + " lines");
        super.visitMethod(tree, none);
        current = before;
        return null;
    }

    @Override
    public Void visitVariable(VariableTree tree, Void none) {
        TypeMirror type = trees.getElement(getCurrentPath()).asType();
        due(isAllowed(type, 2), tree, "the type " + type);
        return super.visitVariable(tree, none);
    }

    /** Rule 3: numbers, signs, own classes, lists of these, and arrays, of two dimensions of numbers alone. */
    private static boolean isAllowed(TypeMirror type, int dimensions) {
        if (type.getKind().isPrimitive()) return true;
        if (type.getKind() == TypeKind.ARRAY) {
            TypeMirror inside = ((ArrayType) type).getComponentType();
            boolean isOwnArray = inside.getKind() == TypeKind.DECLARED;
            return dimensions > 0 && (!isOwnArray || dimensions == 2) && isAllowed(inside, dimensions - 1);
        }
        if (type.getKind() != TypeKind.DECLARED) return false;
        DeclaredType declared = (DeclaredType) type;
        TypeElement element = (TypeElement) declared.asElement();
        if (isOwn(element)) return true;
        String name = element.getQualifiedName().toString();
        boolean isList = name.equals("java.util.ArrayList") && declared.getTypeArguments().size() == 1;
        return isList && isOwn(((DeclaredType) declared.getTypeArguments().get(0)).asElement());
    }

    @Override
    public Void visitThrow(ThrowTree tree, Void none) {
        boolean isInConstructor = current != null && current.getKind() == ElementKind.CONSTRUCTOR;
        due(!isInConstructor, tree, "a throw in a constructor");
        due(tree.getExpression().getKind() == Tree.Kind.NEW_CLASS, tree, "throws what is not new");
        return super.visitThrow(tree, none);
    }

    @Override
    public Void visitCatch(CatchTree tree, Void none) {
        due(false, tree, "a catch");
        return super.visitCatch(tree, none);
    }

    @Override
    public Void visitForLoop(ForLoopTree tree, Void none) {
        due(tree.getCondition() != null && !tree.getUpdate().isEmpty(), tree, "a loop without an end of its own");
        return super.visitForLoop(tree, none);
    }

    @Override
    public Void visitWhileLoop(WhileLoopTree tree, Void none) {
        due(false, tree, "a loop without a counter");
        return super.visitWhileLoop(tree, none);
    }

    @Override
    public Void visitDoWhileLoop(DoWhileLoopTree tree, Void none) {
        due(false, tree, "a loop without a counter");
        return super.visitDoWhileLoop(tree, none);
    }

    @Override
    public Void visitLambdaExpression(LambdaExpressionTree tree, Void none) {
        due(false, tree, "a lambda");
        return super.visitLambdaExpression(tree, none);
    }

    @Override
    public Void visitMemberReference(MemberReferenceTree tree, Void none) {
        due(false, tree, "a method reference");
        return super.visitMemberReference(tree, none);
    }

    /** The program casts to numbers and signs alone. */
    @Override
    public Void visitTypeCast(TypeCastTree tree, Void none) {
        due(tree.getType().getKind() == Tree.Kind.PRIMITIVE_TYPE, tree, "a cast to " + tree.getType());
        return super.visitTypeCast(tree, none);
    }

    @Override
    public Void visitNewArray(NewArrayTree tree, Void none) {
        due(tree.getDimensions().size() <= 1, tree, "an array of arrays");
        return super.visitNewArray(tree, none);
    }

    /** How many calls stand open at once from a method on, itself included; 0 marks those that are being counted. */
    private int depth(Element method) {
        Integer known = depths.get(method);
        if (known != null) {
            if (known == 0) wrong.add("recursion through " + method);
            return known;
        }
        depths.put(method, 0);
        int deepest = 0;
        for (Element called : calls.getOrDefault(method, Set.of())) deepest = Math.max(deepest, depth(called));
        depths.put(method, deepest + 1);
        return deepest + 1;
    }

    private void check() {
        scan(unit, null);
        for (Element method : calls.keySet()) {
            int depth = depth(method);
            if (depth > DEEPEST) wrong.add("calls go " + depth + " deep from " + method);
        }
        if (classes > CLASSES) wrong.add(classes + " classes");
        if (unit.getPackageName() != null) wrong.add("a package");
    }

    public static void main(String[] args) throws Exception {
        Path program = Path.of(args.length > 0 ? args[0] : "src/main/java/ModedMill.java");
        JavaCompiler compiler = ToolProvider.getSystemJavaCompiler();
        try (StandardJavaFileManager files = compiler.getStandardFileManager(null, null, null)) {
            JavacTask task = (JavacTask) compiler.getTask(null, files, null, null, null,
                    files.getJavaFileObjects(program));
            CompilationUnitTree unit = task.parse().iterator().next();
            task.analyze();
            Rules rules = new Rules(Trees.instance(task), unit);
            rules.check();
            for (String what : rules.wrong) System.out.println(what);
            if (!rules.wrong.isEmpty()) System.exit(1);
            System.out.println(rules.calls.size() + " methods that call others keep to the rules");
        }
    }
}
