import com.sun.source.tree.AssertTree;
import com.sun.source.tree.BinaryTree;
import com.sun.source.tree.ClassTree;
import com.sun.source.tree.CompilationUnitTree;
import com.sun.source.tree.LambdaExpressionTree;
import com.sun.source.tree.LiteralTree;
import com.sun.source.tree.MemberReferenceTree;
import com.sun.source.tree.MethodInvocationTree;
import com.sun.source.tree.MethodTree;
import com.sun.source.tree.NewClassTree;
import com.sun.source.tree.SynchronizedTree;
import com.sun.source.tree.ThrowTree;
import com.sun.source.tree.Tree;
import com.sun.source.tree.TryTree;
import com.sun.source.tree.VariableTree;
import com.sun.source.util.JavacTask;
import com.sun.source.util.SourcePositions;
import com.sun.source.util.TreePathScanner;
import com.sun.source.util.Trees;
import java.io.IOException;
import java.nio.file.Path;
import java.util.HashMap;
import java.util.List;
import java.util.Map;
import java.util.Set;
import java.util.TreeSet;
import javax.lang.model.element.Element;
import javax.lang.model.element.ElementKind;
import javax.lang.model.element.Modifier;
import javax.lang.model.element.VariableElement;
import javax.tools.JavaCompiler;
import javax.tools.StandardJavaFileManager;
import javax.tools.ToolProvider;

/**
 * The rules of LANGUAGE.md that can be seen in the program's tree. It is stricter than the rules where
 * the program needs no more: no import, no try, no list, only the library's calls that are in use.
 */
public final class LanguageTest extends TreePathScanner<Void, Element> {
    private static final Path PROGRAM = Path.of("src/main/java/HomeGateway.java");
    private static final Set<String> LIBRARY = Set.of("Math.max", "Math.min", "String.length", "String.charAt");
    private static final Set<String> THROWN =
            Set.of("IllegalStateException", "IllegalArgumentException", "IndexOutOfBoundsException");
    private static final Set<String> TYPES = Set.of("int", "long", "byte", "boolean", "float", "String", "int[]",
            "byte[]", "boolean[]");
    private static final int MAX_PARAMETERS = 7;
    private static final int MAX_LINES = 60;
    private static final int MAX_DEPTH = 8;
    private static final int MAX_CLASSES = 12;
    private static final int MAX_FIELDS = 20;

    private final Trees trees;
    private final CompilationUnitTree unit;
    private final Map<Element, Set<Element>> callees = new HashMap<>();
    private final Set<String> ownTypes = new TreeSet<>();
    private final Set<String> publicMethods = new TreeSet<>();
    private final Set<String> privateMethods = new TreeSet<>();

    private LanguageTest(Trees trees, CompilationUnitTree unit) {
        this.trees = trees;
        this.unit = unit;
    }

    public static void main(String[] args) throws IOException {
        JavaCompiler compiler = ToolProvider.getSystemJavaCompiler();
        try (StandardJavaFileManager files = compiler.getStandardFileManager(null, null, null)) {
            JavacTask task = (JavacTask) compiler.getTask(null, files, null, List.of("--release", "17", "-proc:none"),
                    null, files.getJavaFileObjects(PROGRAM));
            CompilationUnitTree unit = task.parse().iterator().next();
            task.analyze();
            new LanguageTest(Trees.instance(task), unit).look();
        }
        Check.end();
    }

    private void look() {
        Check.yes("no package line", unit.getPackageName() == null);
        Check.same("imports", unit.getImports().size(), 0);
        Check.same("classes at the top", unit.getTypeDecls().size(), 1);
        collectTypes(unit.getTypeDecls().get(0));
        Check.yes("at most 12 classes", ownTypes.size() <= MAX_CLASSES);
        scan(unit, null);
        for (String name : publicMethods) {
            Check.no("a private method bears the public name " + name, privateMethods.contains(name));
        }
        for (Element method : callees.keySet()) {
            Check.yes("calls from " + method + " go at most 8 deep", depth(method, 0) <= MAX_DEPTH);
        }
    }

    private void collectTypes(Tree tree) {
        if (tree instanceof ClassTree type) {
            ownTypes.add(type.getSimpleName().toString());
            type.getMembers().forEach(this::collectTypes);
        }
    }

    /** A method that calls itself, through others too, comes out as too deep: the program has none. */
    private int depth(Element method, int above) {
        int deepest = 0;
        if (above <= MAX_DEPTH) {
            for (Element callee : callees.getOrDefault(method, Set.of())) {
                deepest = Math.max(deepest, depth(callee, above + 1));
            }
        }
        return deepest + 1;
    }

    private Element element() {
        return trees.getElement(getCurrentPath());
    }

    private String where(Tree tree) {
        return "line " + line(trees.getSourcePositions().getStartPosition(unit, tree)) + ": ";
    }

    private long line(long position) {
        return unit.getLineMap().getLineNumber(position);
    }

    private void never(Tree tree, String what) {
        Check.no(where(tree) + what, true);
    }

    @Override
    public Void visitClass(ClassTree tree, Element method) {
        Set<Modifier> modifiers = tree.getModifiers().getFlags();
        Check.yes(where(tree) + "no class within a method", method == null);
        if (getCurrentPath().getParentPath().getLeaf() != unit) {
            Check.yes(where(tree) + "a class inside is private and static",
                    modifiers.containsAll(Set.of(Modifier.PRIVATE, Modifier.STATIC)));
        }
        long fields = tree.getMembers().stream().filter(member -> member instanceof VariableTree field
                && !field.getModifiers().getFlags().contains(Modifier.STATIC)).count();
        Check.yes(where(tree) + "at most 20 fields", fields <= MAX_FIELDS);
        Check.no(where(tree) + "an initialiser block is there",
                tree.getMembers().stream().anyMatch(member -> member.getKind() == Tree.Kind.BLOCK));
        return super.visitClass(tree, method);
    }

    @Override
    public Void visitVariable(VariableTree tree, Element method) {
        VariableElement variable = (VariableElement) element();
        if (variable.getKind() == ElementKind.FIELD && variable.getModifiers().contains(Modifier.STATIC)) {
            Check.yes(where(tree) + "a static field is a constant", variable.getConstantValue() != null);
        }
        String type = tree.getType().toString();
        Check.yes(where(tree) + "the type " + type, TYPES.contains(type) || ownTypes.contains(type)
                || type.endsWith("[]") && ownTypes.contains(type.substring(0, type.length() - 2)));
        return super.visitVariable(tree, method);
    }

    @Override
    public Void visitMethod(MethodTree tree, Element outer) {
        Element method = element();
        SourcePositions positions = trees.getSourcePositions();
        long lines = line(positions.getEndPosition(unit, tree)) - line(positions.getStartPosition(unit, tree)) + 1;
        Check.yes(where(tree) + "at most 60 lines", lines <= MAX_LINES);
        Check.yes(where(tree) + "at most 7 parameters", tree.getParameters().size() <= MAX_PARAMETERS);
        if (method.getKind() == ElementKind.METHOD) {
            (method.getModifiers().contains(Modifier.PUBLIC) ? publicMethods : privateMethods)
                    .add(method.getSimpleName().toString());
        }
        callees.put(method, new java.util.HashSet<>());
        return super.visitMethod(tree, method);
    }

    @Override
    public Void visitMethodInvocation(MethodInvocationTree tree, Element method) {
        noteCall(tree, method);
        return super.visitMethodInvocation(tree, method);
    }

    @Override
    public Void visitNewClass(NewClassTree tree, Element method) {
        if (!THROWN.contains(tree.getIdentifier().toString())) {
            noteCall(tree, method);
        }
        return super.visitNewClass(tree, method);
    }

    private void noteCall(Tree tree, Element method) {
        Element callee = element();
        String owner = callee.getEnclosingElement().getSimpleName().toString();
        if (ownTypes.contains(owner)) {
            callees.get(method).add(callee);
        } else if (!owner.equals("Object") || callee.getKind() != ElementKind.CONSTRUCTOR) {
            String name = owner + "." + callee.getSimpleName();
            Check.yes(where(tree) + "the library's " + name, LIBRARY.contains(name));
        }
    }

    @Override
    public Void visitThrow(ThrowTree tree, Element method) {
        Check.yes(where(tree) + "no throw in a constructor", method.getKind() == ElementKind.METHOD);
        Check.yes(where(tree) + "throw new E(\"a written text\")", tree.getExpression() instanceof NewClassTree made
                && THROWN.contains(made.getIdentifier().toString())
                && made.getArguments().stream().allMatch(text -> text instanceof LiteralTree));
        return super.visitThrow(tree, method);
    }

    @Override
    public Void visitBinary(BinaryTree tree, Element method) {
        if (tree.getKind() == Tree.Kind.PLUS) {
            String type = String.valueOf(trees.getTypeMirror(getCurrentPath()));
            Check.no(where(tree) + "texts joined by +", type.equals("java.lang.String"));
        }
        return super.visitBinary(tree, method);
    }

    @Override
    public Void visitTry(TryTree tree, Element method) {
        never(tree, "try");
        return super.visitTry(tree, method);
    }

    @Override
    public Void visitLambdaExpression(LambdaExpressionTree tree, Element method) {
        never(tree, "a lambda");
        return super.visitLambdaExpression(tree, method);
    }

    @Override
    public Void visitMemberReference(MemberReferenceTree tree, Element method) {
        never(tree, "a method reference");
        return super.visitMemberReference(tree, method);
    }

    @Override
    public Void visitSynchronized(SynchronizedTree tree, Element method) {
        never(tree, "synchronized");
        return super.visitSynchronized(tree, method);
    }

    @Override
    public Void visitAssert(AssertTree tree, Element method) {
        never(tree, "assert");
        return super.visitAssert(tree, method);
    }
}
