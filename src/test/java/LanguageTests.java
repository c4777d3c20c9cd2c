import com.sun.source.tree.BinaryTree;
import com.sun.source.tree.CatchTree;
import com.sun.source.tree.ClassTree;
import com.sun.source.tree.CompilationUnitTree;
import com.sun.source.tree.IdentifierTree;
import com.sun.source.tree.ImportTree;
import com.sun.source.tree.LambdaExpressionTree;
import com.sun.source.tree.LiteralTree;
import com.sun.source.tree.MemberReferenceTree;
import com.sun.source.tree.MemberSelectTree;
import com.sun.source.tree.MethodTree;
import com.sun.source.tree.NewClassTree;
import com.sun.source.tree.SynchronizedTree;
import com.sun.source.tree.ThrowTree;
import com.sun.source.tree.Tree;
import com.sun.source.tree.TryTree;
import com.sun.source.tree.VariableTree;
import com.sun.source.tree.BlockTree;
import com.sun.source.tree.AssertTree;
import com.sun.source.util.JavacTask;
import com.sun.source.util.SourcePositions;
import com.sun.source.util.TreeScanner;
import com.sun.source.util.Trees;
import java.io.File;
import java.nio.file.Files;
import java.nio.file.Path;
import java.util.List;
import java.util.Set;
import javax.lang.model.element.Modifier;
import javax.tools.JavaCompiler;
import javax.tools.StandardJavaFileManager;
import javax.tools.ToolProvider;

/** Those rules of LANGUAGE.md that can be read off the text of Stormbond.java, each fault by the rule's number. */
final class LanguageTests extends TreeScanner<Void, Void> {
    private static final Set<String> EXCEPTIONS = Set.of("IllegalStateException", "IllegalArgumentException",
        "IndexOutOfBoundsException", "ArithmeticException", "UnsupportedOperationException",
        "NoSuchElementException", "RuntimeException");
    private static final Set<String> IMPORTS = Set.of("java.util.ArrayList", "java.util.List", "java.util.Arrays",
        "java.util.Iterator", "java.util.NoSuchElementException");
    private static final Set<String> OF_SYSTEM = Set.of("arraycopy");
    private static final Set<String> OF_ARRAYS = Set.of("copyOf", "copyOfRange", "fill");
    private static final Set<String> FORBIDDEN = Set.of("Thread", "Runtime", "Process", "Double", "Float", "Character",
        "Boolean", "Random", "Object", "Class", "StrictMath", "Scanner", "File");

    private final Suite t;
    private final CompilationUnitTree unit;
    private final SourcePositions positions;
    private int classes;
    private int depthOfClasses;
    private boolean isInConstructor;

    private LanguageTests(Suite t, CompilationUnitTree unit, SourcePositions positions) {
        this.t = t;
        this.unit = unit;
        this.positions = positions;
    }

    static void addTo(Suite s, String path) {
        s.test("LANGUAGE.md: the rules that the text shows", t -> read(t, path));
        s.test("LANGUAGE.md, rule 4: signs of the text are 1 to 127", t -> signs(t, path));
    }

    private static void signs(Suite t, String path) throws Exception {
        String text = Files.readString(Path.of(path));
        t.due("signs above 127", 0, text.chars().filter(c -> c > 127).count());
        t.due("a package line", 0, text.startsWith("package") ? 1 : 0);
    }

    private static void read(Suite t, String path) throws Exception {
        JavaCompiler compiler = ToolProvider.getSystemJavaCompiler();
        try (StandardJavaFileManager files = compiler.getStandardFileManager(null, null, null)) {
            JavacTask task = (JavacTask) compiler.getTask(null, files, null, null, null,
                files.getJavaFileObjects(new File(path)));
            for (CompilationUnitTree unit : task.parse()) {
                LanguageTests reader = new LanguageTests(t, unit, Trees.instance(task).getSourcePositions());
                reader.scan(unit, null);
                t.due("rule 11: some twelve classes", 1, reader.classes > 0 && reader.classes <= 14 ? 1 : 0);
            }
        }
    }

    private long line(Tree tree) {
        return unit.getLineMap().getLineNumber(positions.getStartPosition(unit, tree));
    }

    private void fault(Tree tree, String what) {
        t.fault("line " + line(tree) + ": " + what);
    }

    @Override
    public Void visitImport(ImportTree tree, Void p) {
        if (!IMPORTS.contains(tree.getQualifiedIdentifier().toString())) {
            fault(tree, "rule 4: an import of " + tree.getQualifiedIdentifier());
        }
        return null;
    }

    @Override
    public Void visitClass(ClassTree tree, Void p) {
        classes++;
        int fields = 0;
        for (Tree member : tree.getMembers()) {
            if (member instanceof VariableTree) {
                Set<Modifier> flags = ((VariableTree) member).getModifiers().getFlags();
                fields += flags.contains(Modifier.STATIC) ? 0 : 1;
                if (flags.contains(Modifier.STATIC) && !flags.contains(Modifier.FINAL)) {
                    fault(member, "rule 5: a static field that is not final");
                }
            }
            if (member instanceof BlockTree && ((BlockTree) member).isStatic()) {
                fault(member, "rule 5: a static initialiser block");
            }
        }
        if (fields > 22) {
            fault(tree, "rule 11: some twenty fields, not " + fields);
        }
        if (depthOfClasses > 0 && tree.getModifiers().getFlags().contains(Modifier.PUBLIC)) {
            fault(tree, "rule 1: a class inside that is public");
        }
        depthOfClasses++;
        super.visitClass(tree, p);
        depthOfClasses--;
        return null;
    }

    @Override
    public Void visitMethod(MethodTree tree, Void p) {
        long end = unit.getLineMap().getLineNumber(positions.getEndPosition(unit, tree));
        if (end - line(tree) >= 65) {
            fault(tree, "rule 11: " + tree.getName() + " has more than some sixty lines");
        }
        if (tree.getParameters().size() > 7) {
            fault(tree, "rule 11: " + tree.getName() + " takes more than seven parameters");
        }
        Set<Modifier> flags = tree.getModifiers().getFlags();
        if (flags.contains(Modifier.PRIVATE) && isNameOfFace(tree.getName().toString())) {
            fault(tree, "rule 1: " + tree.getName() + " bears the name of a public one");
        }
        if (flags.contains(Modifier.SYNCHRONIZED)) {
            fault(tree, "rule 6: synchronized");
        }
        isInConstructor = tree.getReturnType() == null;
        super.visitMethod(tree, p);
        isInConstructor = false;
        return null;
    }

    private static boolean isNameOfFace(String name) {
        for (java.lang.reflect.Method m : Stormbond.class.getMethods()) {
            if (m.getName().equals(name)) {
                return true;
            }
        }
        return false;
    }

    @Override
    public Void visitThrow(ThrowTree tree, Void p) {
        if (isInConstructor) {
            fault(tree, "rule 6: a throw in a constructor");
        }
        if (!(tree.getExpression() instanceof NewClassTree)) {
            fault(tree, "rule 6: a throw of what is not made there");
            return super.visitThrow(tree, p);
        }
        NewClassTree made = (NewClassTree) tree.getExpression();
        if (!EXCEPTIONS.contains(made.getIdentifier().toString())) {
            fault(tree, "rule 6: a throw of " + made.getIdentifier());
        }
        List<? extends Tree> arguments = made.getArguments();
        if (arguments.size() > 1 || arguments.size() == 1 && !(arguments.get(0) instanceof LiteralTree)) {
            fault(tree, "rule 6: an exception without a written text");
        }
        return super.visitThrow(tree, p);
    }

    @Override
    public Void visitTry(TryTree tree, Void p) {
        if (tree.getFinallyBlock() != null || !tree.getResources().isEmpty()) {
            fault(tree, "rule 6: finally, or try with resources");
        }
        return super.visitTry(tree, p);
    }

    @Override
    public Void visitCatch(CatchTree tree, Void p) {
        if (!EXCEPTIONS.contains(tree.getParameter().getType().toString())) {
            fault(tree, "rule 6: a catch of " + tree.getParameter().getType());
        }
        return super.visitCatch(tree, p);
    }

    @Override
    public Void visitMemberSelect(MemberSelectTree tree, Void p) {
        if (tree.getExpression() instanceof IdentifierTree) {
            String from = ((IdentifierTree) tree.getExpression()).getName().toString();
            if (!isInLibrary(from, tree.getIdentifier().toString())) {
                fault(tree, "rule 4: " + tree);
            }
        }
        return super.visitMemberSelect(tree, p);
    }

    private static boolean isInLibrary(String from, String name) {
        switch (from) {
            case "System":
                return OF_SYSTEM.contains(name);
            case "Arrays":
                return OF_ARRAYS.contains(name);
            case "Math":
            case "Integer":
            case "Long":
                return !name.endsWith("Exact") && !name.equals("random");
            default:
                return !FORBIDDEN.contains(from);
        }
    }

    @Override
    public Void visitLambdaExpression(LambdaExpressionTree tree, Void p) {
        fault(tree, "rule 2: a lambda");
        return super.visitLambdaExpression(tree, p);
    }

    @Override
    public Void visitMemberReference(MemberReferenceTree tree, Void p) {
        fault(tree, "rule 2: a method reference");
        return super.visitMemberReference(tree, p);
    }

    @Override
    public Void visitSynchronized(SynchronizedTree tree, Void p) {
        fault(tree, "rule 6: synchronized");
        return super.visitSynchronized(tree, p);
    }

    @Override
    public Void visitAssert(AssertTree tree, Void p) {
        fault(tree, "rule 6: assert");
        return super.visitAssert(tree, p);
    }

    @Override
    public Void visitBinary(BinaryTree tree, Void p) {
        boolean isText = tree.getLeftOperand().getKind() == Tree.Kind.STRING_LITERAL
            || tree.getRightOperand().getKind() == Tree.Kind.STRING_LITERAL;
        if (isText && tree.getKind() == Tree.Kind.PLUS) {
            fault(tree, "rule 10: texts joined by +");
        }
        return super.visitBinary(tree, p);
    }
}
