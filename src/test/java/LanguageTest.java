import com.sun.source.tree.BinaryTree;
import com.sun.source.tree.BlockTree;
import com.sun.source.tree.ClassTree;
import com.sun.source.tree.CompilationUnitTree;
import com.sun.source.tree.ExpressionTree;
import com.sun.source.tree.IdentifierTree;
import com.sun.source.tree.ImportTree;
import com.sun.source.tree.LiteralTree;
import com.sun.source.tree.MemberSelectTree;
import com.sun.source.tree.MethodInvocationTree;
import com.sun.source.tree.MethodTree;
import com.sun.source.tree.ModifiersTree;
import com.sun.source.tree.NewArrayTree;
import com.sun.source.tree.NewClassTree;
import com.sun.source.tree.ThrowTree;
import com.sun.source.tree.Tree;
import com.sun.source.tree.VariableTree;
import com.sun.source.util.JavacTask;
import com.sun.source.util.SourcePositions;
import com.sun.source.util.TreePathScanner;
import com.sun.source.util.Trees;
import java.io.IOException;
import java.nio.file.Files;
import java.nio.file.Path;
import java.util.List;
import java.util.Map;
import java.util.Set;
import java.util.TreeMap;
import java.util.TreeSet;
import javax.lang.model.element.Modifier;
import javax.tools.JavaCompiler;
import javax.tools.StandardJavaFileManager;
import javax.tools.ToolProvider;

/**
 * What the program's text shows of the rules of LANGUAGE.md, as javac reads it. It is narrower than the rules where
 * the program needs less: no import, no try, nothing made in a method but an exception. It runs in the project's
 * directory.
 */
final class LanguageTest extends TreePathScanner<Void, Void> {
    private static final Path PROGRAM = Path.of("src/main/java/CheckpointedStream.java");
    private static final Set<String> OWN_KINDS = Set.of("boolean", "int", "long", "char", "byte", "String");
    private static final Set<String> EXCEPTIONS = Set.of("IllegalStateException", "IllegalArgumentException",
            "IndexOutOfBoundsException", "ArithmeticException", "UnsupportedOperationException",
            "NoSuchElementException", "RuntimeException");
    private static final Set<String> LIBRARY = Set.of("String", "StringBuilder", "Integer", "Long", "Math");
    private static final Set<Tree.Kind> RULED_OUT = Set.of(Tree.Kind.LAMBDA_EXPRESSION, Tree.Kind.MEMBER_REFERENCE,
            Tree.Kind.TRY, Tree.Kind.SYNCHRONIZED, Tree.Kind.ASSERT, Tree.Kind.INSTANCE_OF, Tree.Kind.TYPE_CAST,
            Tree.Kind.ANNOTATION, Tree.Kind.DOUBLE_LITERAL, Tree.Kind.FLOAT_LITERAL);

    private static final Check CHECK = new Check("LanguageTest");

    private final CompilationUnitTree unit;
    private final SourcePositions positions;
    private final Set<String> ownClasses = new TreeSet<>();
    private final Map<String, Set<String>> callsOf = new TreeMap<>();

    private LanguageTest(CompilationUnitTree unit, SourcePositions positions) {
        this.unit = unit;
        this.positions = positions;
    }

    public static void main(String[] args) throws IOException {
        String text = Files.readString(PROGRAM);
        JavaCompiler compiler = ToolProvider.getSystemJavaCompiler();
        try (StandardJavaFileManager files = compiler.getStandardFileManager(null, null, null)) {
            JavacTask task = (JavacTask) compiler.getTask(null, files, null, null, null,
                    files.getJavaFileObjects(PROGRAM));
            CompilationUnitTree unit = task.parse().iterator().next();
            LanguageTest test = new LanguageTest(unit, Trees.instance(task).getSourcePositions());
            CHECK.sentence("one file without a package, one class, no import", test::oneClass);
            CHECK.sentence("its text is of signs 1 to 127", () -> CHECK.yes("signs", text.chars().allMatch(
                    sign -> sign > 0 && sign < 128)));
            CHECK.sentence("classes, fields, methods and what they make keep to the rules",
                    () -> test.scan(unit, null));
            CHECK.sentence("calls go at most eight deep, and none goes round", test::depthOfCalls);
        }
        CHECK.finish();
    }

    private void oneClass() {
        CHECK.yes("no package", unit.getPackage() == null);
        CHECK.same("classes at the top", unit.getTypeDecls().size(), 1);
        for (ImportTree each : unit.getImports()) {
            CHECK.sameText("an import", each.toString(), "none");
        }
    }

    private void depthOfCalls() {
        for (String method : callsOf.keySet()) {
            CHECK.yes("calls from " + method, depthOf(method, 1) <= 8);
        }
    }

    /** A call that goes round would go deeper than nine. */
    private int depthOf(String method, int depth) {
        int deepest = depth;
        if (depth <= 8) {
            for (String called : callsOf.getOrDefault(method, Set.of())) {
                deepest = Math.max(deepest, depthOf(called, depth + 1));
            }
        }
        return deepest;
    }

    @Override
    public Void scan(Tree tree, Void none) {
        if (tree != null) {
            CHECK.no(placeOf(tree) + " is ruled out: " + tree.getKind(), RULED_OUT.contains(tree.getKind()));
        }
        return super.scan(tree, none);
    }

    @Override
    public Void visitClass(ClassTree tree, Void none) {
        ownClasses.add(tree.getSimpleName().toString());
        CHECK.yes(placeOf(tree) + " at most twelve classes", ownClasses.size() <= 12);
        boolean isInside = getCurrentPath().getParentPath().getLeaf() != unit;
        Set<Modifier> flags = tree.getModifiers().getFlags();
        if (isInside) {
            CHECK.yes(placeOf(tree) + " static and not public", flags.contains(Modifier.STATIC)
                    && !flags.contains(Modifier.PUBLIC) && !flags.contains(Modifier.PROTECTED));
        }
        int fields = 0;
        for (Tree member : tree.getMembers()) {
            CHECK.no(placeOf(member) + " an initialiser block", member instanceof BlockTree);
            if (member instanceof VariableTree field && !isStatic(field.getModifiers())) {
                fields++;
            }
        }
        CHECK.yes(placeOf(tree) + " some twenty fields", fields <= 20);
        return super.visitClass(tree, none);
    }

    private static boolean isStatic(ModifiersTree modifiers) {
        return modifiers.getFlags().contains(Modifier.STATIC);
    }

    @Override
    public Void visitVariable(VariableTree tree, Void none) {
        if (isStatic(tree.getModifiers())) {
            CHECK.yes(placeOf(tree) + " a static field is final",
                    tree.getModifiers().getFlags().contains(Modifier.FINAL));
            CHECK.yes(placeOf(tree) + " a constant", OWN_KINDS.contains(tree.getType().toString()));
        }
        return super.visitVariable(tree, none);
    }

    @Override
    public Void visitMethod(MethodTree tree, Void none) {
        String name = tree.getName().toString();
        long lines = lineOf(positions.getEndPosition(unit, tree)) - lineOf(positions.getStartPosition(unit, tree)) + 1;
        CHECK.yes(placeOf(tree) + " at most seven parameters", tree.getParameters().size() <= 7);
        CHECK.yes(placeOf(tree) + " some sixty lines", lines <= 60);
        CHECK.no(placeOf(tree) + " of an object's own", Set.of("equals", "hashCode", "toString").contains(name));
        callsOf.computeIfAbsent(name, key -> new TreeSet<>());
        return super.visitMethod(tree, none);
    }

    @Override
    public Void visitMethodInvocation(MethodInvocationTree tree, Void none) {
        ExpressionTree called = tree.getMethodSelect();
        String name = called instanceof MemberSelectTree select
                ? select.getIdentifier().toString() : called.toString();
        MethodTree method = methodAround();
        if (method != null) {
            callsOf.computeIfAbsent(method.getName().toString(), key -> new TreeSet<>()).add(name);
        }
        CHECK.no(placeOf(tree) + " " + name, name.endsWith("Exact"));
        return super.visitMethodInvocation(tree, none);
    }

    /** A name that begins with a great letter is a class: one of the program's own or one that the rules list. */
    @Override
    public Void visitIdentifier(IdentifierTree tree, Void none) {
        String name = tree.getName().toString();
        boolean isClass = Character.isUpperCase(name.charAt(0)) && !name.equals(name.toUpperCase());
        if (isClass) {
            CHECK.yes(placeOf(tree) + " " + name, isOwn(name) || EXCEPTIONS.contains(name) || LIBRARY.contains(name));
        }
        return super.visitIdentifier(tree, none);
    }

    private boolean isOwn(String name) {
        ClassTree program = (ClassTree) unit.getTypeDecls().get(0);
        for (Tree member : program.getMembers()) {
            if (member instanceof ClassTree inside && inside.getSimpleName().contentEquals(name)) {
                return true;
            }
        }
        return program.getSimpleName().contentEquals(name);
    }

    @Override
    public Void visitThrow(ThrowTree tree, Void none) {
        MethodTree method = methodAround();
        CHECK.no(placeOf(tree) + " in a constructor", method != null && method.getReturnType() == null);
        boolean isMadeHere = tree.getExpression() instanceof NewClassTree;
        CHECK.yes(placeOf(tree) + " throws what it makes", isMadeHere);
        if (isMadeHere) {
            NewClassTree made = (NewClassTree) tree.getExpression();
            List<? extends ExpressionTree> texts = made.getArguments();
            CHECK.yes(placeOf(tree) + " one that is listed", EXCEPTIONS.contains(made.getIdentifier().toString()));
            CHECK.yes(placeOf(tree) + " with a written text",
                    texts.isEmpty() || texts.size() == 1 && texts.get(0) instanceof LiteralTree);
        }
        return super.visitThrow(tree, none);
    }

    @Override
    public Void visitNewClass(NewClassTree tree, Void none) {
        boolean isThrown = getCurrentPath().getParentPath().getLeaf() instanceof ThrowTree;
        CHECK.yes(placeOf(tree) + " is made with the object, or thrown", isThrown || methodAround() == null);
        return super.visitNewClass(tree, none);
    }

    @Override
    public Void visitNewArray(NewArrayTree tree, Void none) {
        CHECK.yes(placeOf(tree) + " is made with the object", methodAround() == null);
        return super.visitNewArray(tree, none);
    }

    @Override
    public Void visitBinary(BinaryTree tree, Void none) {
        boolean joins = tree.getKind() == Tree.Kind.PLUS && (tree.getLeftOperand().getKind() == Tree.Kind.STRING_LITERAL
                || tree.getRightOperand().getKind() == Tree.Kind.STRING_LITERAL);
        CHECK.no(placeOf(tree) + " joins texts by +", joins);
        return super.visitBinary(tree, none);
    }

    private MethodTree methodAround() {
        for (Tree around : getCurrentPath()) {
            if (around instanceof MethodTree method) {
                return method;
            }
        }
        return null;
    }

    private String placeOf(Tree tree) {
        return "line " + lineOf(positions.getStartPosition(unit, tree)) + ":";
    }

    private long lineOf(long position) {
        return position < 0 ? 0 : unit.getLineMap().getLineNumber(position);
    }
}
