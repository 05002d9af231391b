import com.sun.source.tree.AssertTree;
import com.sun.source.tree.BinaryTree;
import com.sun.source.tree.BlockTree;
import com.sun.source.tree.CatchTree;
import com.sun.source.tree.ClassTree;
import com.sun.source.tree.CompilationUnitTree;
import com.sun.source.tree.CompoundAssignmentTree;
import com.sun.source.tree.ExpressionTree;
import com.sun.source.tree.ImportTree;
import com.sun.source.tree.LambdaExpressionTree;
import com.sun.source.tree.LiteralTree;
import com.sun.source.tree.MemberReferenceTree;
import com.sun.source.tree.MethodInvocationTree;
import com.sun.source.tree.MethodTree;
import com.sun.source.tree.NewClassTree;
import com.sun.source.tree.SynchronizedTree;
import com.sun.source.tree.ThrowTree;
import com.sun.source.tree.Tree;
import com.sun.source.tree.TryTree;
import com.sun.source.tree.VariableTree;
import com.sun.source.util.JavacTask;
import com.sun.source.util.TreePath;
import com.sun.source.util.TreePathScanner;
import com.sun.source.util.Trees;
import java.nio.file.Path;
import java.util.ArrayList;
import java.util.HashMap;
import java.util.List;
import java.util.Map;
import java.util.Set;
import java.util.TreeSet;
import javax.lang.model.element.Element;
import javax.lang.model.element.ElementKind;
import javax.lang.model.element.ExecutableElement;
import javax.lang.model.element.Modifier;
import javax.lang.model.type.ArrayType;
import javax.lang.model.type.DeclaredType;
import javax.lang.model.type.TypeKind;
import javax.lang.model.type.TypeMirror;
import javax.tools.JavaCompiler;
import javax.tools.JavaFileObject;
import javax.tools.StandardJavaFileManager;
import javax.tools.ToolProvider;

/**
 * The class keeps to the rules of ../shared/LANGUAGE.md that can be seen in its text, by their numbers. The members of
 * rule 1 are FeedloomFace's; what a run makes, and that loops end and indices are looked at (7, 9, 12), is not seen here.
 */
public final class FeedloomLanguage extends TreePathScanner<Void, Void> {
    private static final Path FILE = Path.of("src/main/java/Feedloom.java");
    private static final int MOST_CLASSES = 12;
    private static final int MOST_FIELDS = 20;
    private static final int MOST_PARAMETERS = 7;
    private static final int MOST_LINES = 60;
    private static final int DEEPEST_CALLS = 8;
    private static final int DEEPER_THAN_ANY = 1000;

    private static final Set<String> THROWN = Set.of("IllegalStateException", "IllegalArgumentException",
        "IndexOutOfBoundsException", "ArithmeticException", "UnsupportedOperationException", "NoSuchElementException",
        "RuntimeException");
    private static final Set<String> IMPORTED = Set.of("java.util.NoSuchElementException", "java.util.ArrayList",
        "java.util.List", "java.util.Arrays", "java.util.Iterator");
    private static final Set<String> TYPES = Set.of("java.lang.String", "java.lang.StringBuilder", "java.lang.Integer",
        "java.util.ArrayList", "java.util.List");
    private static final Map<String, Set<String>> LIBRARY = Map.of(
        "java.lang.String", Set.of("length", "charAt", "isEmpty", "equals", "indexOf", "substring", "toCharArray"),
        "java.lang.StringBuilder", Set.of("append", "deleteCharAt", "reverse", "toString"),
        "java.lang.AbstractStringBuilder", Set.of("charAt", "setCharAt", "setLength", "length"),
        "Array", Set.of("clone"),
        "java.util.ArrayList", Set.of("add", "get", "set", "remove", "size", "isEmpty", "clear"),
        "java.util.List", Set.of("add", "get", "set", "remove", "size", "isEmpty", "clear", "of"),
        "java.lang.System", Set.of("arraycopy"),
        "java.util.Arrays", Set.of("copyOf", "copyOfRange", "fill"));
    private static final Set<String> OF_NUMBERS = Set.of("java.lang.Math", "java.lang.Integer", "java.lang.Long");

    private final Trees trees;
    private final CompilationUnitTree unit;
    private final List<String> faults = new ArrayList<>();
    private final Map<Element, Set<Element>> calls = new HashMap<>();
    private int classes = 0;
    private int methods = 0;
    private Element method = null;

    private FeedloomLanguage(Trees trees, CompilationUnitTree unit) {
        this.trees = trees;
        this.unit = unit;
    }

    public static void main(String[] args) throws Exception {
        JavaCompiler compiler = ToolProvider.getSystemJavaCompiler();
        try (StandardJavaFileManager files = compiler.getStandardFileManager(null, null, null)) {
            Iterable<? extends JavaFileObject> sources = files.getJavaFileObjects(FILE);
            JavacTask task = (JavacTask) compiler.getTask(null, files, null, null, null, sources);
            CompilationUnitTree unit = task.parse().iterator().next();
            task.analyze();
            new FeedloomLanguage(Trees.instance(task), unit).end();
        }
    }

    private void end() {
        scan(unit, null);
        checkUnit();
        checkDepth();
        faults.forEach(System.out::println);
        if (!faults.isEmpty()) {
            System.exit(1);
        }
        System.out.println(classes + " classes and " + methods + " methods keep to the rules");
    }

    private void fault(int rule, Tree where, String what) {
        long line = unit.getLineMap().getLineNumber(trees.getSourcePositions().getStartPosition(unit, where));
        faults.add("line " + line + ", rule " + rule + ": " + what);
    }

    private void require(boolean holds, int rule, Tree where, String what) {
        if (!holds) {
            fault(rule, where, what);
        }
    }

    private Element elementOf(Tree tree) {
        return trees.getElement(new TreePath(getCurrentPath(), tree));
    }

    private TypeMirror typeOf(Tree tree) {
        return trees.getTypeMirror(new TreePath(getCurrentPath(), tree));
    }

    // ---- the file and its classes

    private void checkUnit() {
        require(unit.getPackageName() == null, 0, unit, "the file has a package");
        require(unit.getTypeDecls().size() == 1, 1, unit, "the file has more than one class");
        require(classes > 1 && methods > 39, 1, unit, "the class has not been seen");
        require(classes <= MOST_CLASSES, 11, unit, "the file has " + classes + " classes");
    }

    @Override
    public Void visitImport(ImportTree tree, Void p) {
        require(!tree.isStatic() && IMPORTED.contains(tree.getQualifiedIdentifier().toString()), 4, tree, "an import");
        return null;
    }

    @Override
    public Void visitClass(ClassTree tree, Void p) {
        classes++;
        Element type = trees.getElement(getCurrentPath());
        Set<Modifier> kind = type.getModifiers();
        if (getCurrentPath().getParentPath().getLeaf() instanceof ClassTree) {
            require(kind.contains(Modifier.STATIC), 1, tree, "a class inside is not static");
            require(!kind.contains(Modifier.PUBLIC) && !kind.contains(Modifier.PROTECTED), 1, tree,
                "a class inside is public or protected");
        }
        int fields = 0;
        for (Tree member : tree.getMembers()) {
            require(!(member instanceof BlockTree block && block.isStatic()), 5, member, "a static block");
            if (member instanceof VariableTree field && !isStatic(field)) {
                fields++;
            }
        }
        require(fields <= MOST_FIELDS, 11, tree, "a class has " + fields + " fields");
        return super.visitClass(tree, p);
    }

    private static boolean isStatic(VariableTree field) {
        return field.getModifiers().getFlags().contains(Modifier.STATIC);
    }

    // ---- fields, variables and types

    @Override
    public Void visitVariable(VariableTree tree, Void p) {
        TypeMirror type = trees.getTypeMirror(getCurrentPath());
        checkType(type, tree);
        if (isStatic(tree)) {
            require(tree.getModifiers().getFlags().contains(Modifier.FINAL), 5, tree, "a static field is not final");
            boolean isOfEnum = trees.getElement(getCurrentPath()).getKind() == ElementKind.ENUM_CONSTANT;
            require(isOfEnum || isConstant(type), 5, tree, "a static field of the type " + type);
        }
        return super.visitVariable(tree, p);
    }

    private static boolean isConstant(TypeMirror type) {
        if (type instanceof ArrayType row && row.getComponentType() instanceof DeclaredType own) {
            return own.asElement().getKind() == ElementKind.ENUM;
        }
        if (type instanceof ArrayType row) {
            return Set.of("int", "long", "char", "byte").contains(row.getComponentType().toString());
        }
        return Set.of("int", "long", "boolean", "char", "java.lang.String").contains(type.toString());
    }

    private void checkType(TypeMirror type, Tree where) {
        int deep = 0;
        TypeMirror base = type;
        while (base instanceof ArrayType row) {
            base = row.getComponentType();
            deep++;
        }
        String name = base.toString().replaceFirst("<.*", "");
        boolean isOwn = name.startsWith("Feedloom") || base.getKind() == TypeKind.TYPEVAR;
        boolean isPlain = base.getKind().isPrimitive();
        require(isPlain || isOwn || TYPES.contains(name), 3, where, "the type " + type);
        require(deep <= 1 || deep == 2 && isPlain, 3, where, "the array " + type);
    }

    @Override
    public Void visitLiteral(LiteralTree tree, Void p) {
        String text = tree.getValue() instanceof String || tree.getValue() instanceof Character
            ? tree.getValue().toString() : "";
        require(text.chars().allMatch(sign -> sign >= 1 && sign <= 127), 4, tree, "a sign beyond 127");
        return null;
    }

    // ---- methods and calls

    @Override
    public Void visitMethod(MethodTree tree, Void p) {
        methods++;
        Element outer = method;
        method = trees.getElement(getCurrentPath());
        calls.putIfAbsent(method, new TreeSet<>((a, b) -> name(a).compareTo(name(b))));
        if (tree.getReturnType() != null && method instanceof ExecutableElement made
                && made.getReturnType().getKind() != TypeKind.VOID) {
            checkType(made.getReturnType(), tree);
        }
        require(tree.getParameters().size() <= MOST_PARAMETERS, 11, tree, "too many parameters");
        long from = trees.getSourcePositions().getStartPosition(unit, tree);
        long to = trees.getSourcePositions().getEndPosition(unit, tree);
        if (to >= 0) {
            long lines = unit.getLineMap().getLineNumber(to) - unit.getLineMap().getLineNumber(from) + 1;
            require(lines <= MOST_LINES, 11, tree, "a method of " + lines + " lines");
        }
        super.visitMethod(tree, p);
        method = outer;
        return null;
    }

    private static String name(Element method) {
        return method.getEnclosingElement() + "." + method;
    }

    @Override
    public Void visitMethodInvocation(MethodInvocationTree tree, Void p) {
        Element called = elementOf(tree.getMethodSelect());
        String owner = called.getEnclosingElement().toString();
        if (called.getKind() == ElementKind.CONSTRUCTOR || owner.startsWith("Feedloom")) {
            if (method != null && called.getKind() != ElementKind.CONSTRUCTOR) {
                calls.get(method).add(called);
            }
        } else {
            require(isAllowed(owner, called), 4, tree, "a call of " + owner + "." + called);
        }
        return super.visitMethodInvocation(tree, p);
    }

    private static boolean isAllowed(String owner, Element called) {
        String name = called.getSimpleName().toString();
        if (LIBRARY.containsKey(owner)) {
            return LIBRARY.get(owner).contains(name);
        }
        if (!OF_NUMBERS.contains(owner) || name.endsWith("Exact") || !called.getModifiers().contains(Modifier.STATIC)) {
            return false;
        }
        return ((ExecutableElement) called).getParameters().stream()
            .allMatch(one -> Set.of("int", "long").contains(one.asType().toString()));
    }

    private void checkDepth() {
        for (Element from : calls.keySet()) {
            int depth = depthOf(from, 1);
            if (depth > DEEPEST_CALLS) {
                faults.add("rule 11: " + name(from) + (depth >= DEEPER_THAN_ANY
                    ? " comes to calls in a circle, whose end (rule 8) this test does not see" : " calls too deep: " + depth));
            }
        }
    }

    private int depthOf(Element from, int level) {
        if (level >= DEEPER_THAN_ANY) {
            return level;
        }
        int deepest = level;
        for (Element called : calls.getOrDefault(from, Set.of())) {
            deepest = Math.max(deepest, depthOf(called, level + 1));
            if (deepest >= DEEPER_THAN_ANY) {
                return deepest;
            }
        }
        return deepest;
    }

    // ---- exceptions

    @Override
    public Void visitThrow(ThrowTree tree, Void p) {
        ExpressionTree thrown = tree.getExpression();
        boolean isPlain = thrown instanceof NewClassTree made && made.getClassBody() == null
            && THROWN.contains(made.getIdentifier().toString())
            && made.getArguments().size() <= 1
            && made.getArguments().stream().allMatch(text -> text.getKind() == Tree.Kind.STRING_LITERAL);
        require(isPlain, 6, tree, "a throw of another form");
        require(method != null && method.getKind() != ElementKind.CONSTRUCTOR, 6, tree, "a throw in a constructor");
        return super.visitThrow(tree, p);
    }

    @Override
    public Void visitTry(TryTree tree, Void p) {
        require(tree.getFinallyBlock() == null && tree.getResources().isEmpty(), 6, tree, "finally or resources");
        require(!holdsThrow(), 6, tree, "a try in the method that holds the throw");
        return super.visitTry(tree, p);
    }

    @Override
    public Void visitCatch(CatchTree tree, Void p) {
        require(THROWN.contains(tree.getParameter().getType().toString()), 6, tree, "a catch of another class");
        return scan(tree.getBlock(), p);
    }

    private boolean holdsThrow() {
        boolean[] found = new boolean[1];
        new TreePathScanner<Void, Void>() {
            @Override
            public Void visitThrow(ThrowTree tree, Void p) {
                found[0] = true;
                return null;
            }
        }.scan(trees.getPath(method), null);
        return found[0];
    }

    // ---- what the language leaves out

    @Override
    public Void visitLambdaExpression(LambdaExpressionTree tree, Void p) {
        fault(2, tree, "a lambda");
        return null;
    }

    @Override
    public Void visitMemberReference(MemberReferenceTree tree, Void p) {
        fault(2, tree, "a method reference");
        return null;
    }

    @Override
    public Void visitAssert(AssertTree tree, Void p) {
        fault(6, tree, "assert");
        return null;
    }

    @Override
    public Void visitSynchronized(SynchronizedTree tree, Void p) {
        fault(6, tree, "synchronized");
        return null;
    }

    @Override
    public Void visitBinary(BinaryTree tree, Void p) {
        TypeMirror left = typeOf(tree.getLeftOperand());
        TypeMirror right = typeOf(tree.getRightOperand());
        if (tree.getKind() == Tree.Kind.PLUS) {
            require(!isText(left) && !isText(right), 10, tree, "texts joined by +");
        }
        if (tree.getKind() == Tree.Kind.EQUAL_TO || tree.getKind() == Tree.Kind.NOT_EQUAL_TO) {
            require(!(isText(left) && isText(right)) && !(isBoxed(left) && isBoxed(right)), 6, tree,
                "== between two Strings or two Integers");
        }
        if (tree.getKind() == Tree.Kind.REMAINDER) {
            require(!isFraction(left) && !isFraction(right), 3, tree, "a remainder of doubles or floats");
        }
        return super.visitBinary(tree, p);
    }

    @Override
    public Void visitCompoundAssignment(CompoundAssignmentTree tree, Void p) {
        require(!isText(typeOf(tree.getVariable())), 10, tree, "texts joined by +=");
        return super.visitCompoundAssignment(tree, p);
    }

    private static boolean isText(TypeMirror type) {
        return type.toString().equals("java.lang.String");
    }

    private static boolean isBoxed(TypeMirror type) {
        return type.toString().equals("java.lang.Integer");
    }

    private static boolean isFraction(TypeMirror type) {
        return type.getKind() == TypeKind.DOUBLE || type.getKind() == TypeKind.FLOAT;
    }
}
