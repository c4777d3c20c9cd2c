import com.sun.source.tree.ArrayAccessTree;
import com.sun.source.tree.BinaryTree;
import com.sun.source.tree.ClassTree;
import com.sun.source.tree.CompilationUnitTree;
import com.sun.source.tree.IdentifierTree;
import com.sun.source.tree.ImportTree;
import com.sun.source.tree.LambdaExpressionTree;
import com.sun.source.tree.LiteralTree;
import com.sun.source.tree.MemberReferenceTree;
import com.sun.source.tree.MemberSelectTree;
import com.sun.source.tree.MethodTree;
import com.sun.source.tree.NewArrayTree;
import com.sun.source.tree.NewClassTree;
import com.sun.source.tree.SynchronizedTree;
import com.sun.source.tree.ThrowTree;
import com.sun.source.tree.Tree;
import com.sun.source.tree.TryTree;
import com.sun.source.tree.VariableTree;
import com.sun.source.tree.BlockTree;
import com.sun.source.tree.AssertTree;
import com.sun.source.util.JavacTask;
import com.sun.source.util.SourcePositions;
import com.sun.source.util.TreeScanner;
import com.sun.source.util.Trees;
import java.io.File;
import java.nio.file.Files;
import java.nio.file.Path;
import java.util.List;
import java.util.Set;
import javax.lang.model.element.Modifier;
import javax.tools.JavaCompiler;
import javax.tools.StandardJavaFileManager;
import javax.tools.ToolProvider;

/** Those rules of LANGUAGE.md that can be read off the text of Stormbond.java. */
final class LanguageTests extends TreeScanner<Void, Void> {
    private static final Set<String> EXCEPTIONS =
        Set.of("IllegalStateException", "IllegalArgumentException", "IndexOutOfBoundsException");
    private static final Set<String> LIBRARY = Set.of("Math.min", "Math.max", "Math.abs", "System.arraycopy");
    private static final Set<String> LIBRARY_NAMES = Set.of("Math", "System", "Integer", "Long", "Double", "Arrays",
        "String", "Object", "Character", "Boolean", "Float", "Thread", "Runtime");

    private final Suite t;
    private final CompilationUnitTree unit;
    private final SourcePositions positions;
    private int classes;
    private int depthOfClasses;
    private boolean isInMethod;
    private boolean isInThrow;
    private boolean isInConstructor;

    private LanguageTests(Suite t, CompilationUnitTree unit, SourcePositions positions) {
        this.t = t;
        this.unit = unit;
        this.positions = positions;
    }

    static void addTo(Suite s, String path) {
        s.test("LANGUAGE.md: the rules that the text shows", t -> read(t, path));
        s.test("LANGUAGE.md: signs of the text", t -> signs(t, path));
    }

    private static void signs(Suite t, String path) throws Exception {
        String text = Files.readString(Path.of(path));
        t.due("signs above 126", 0, text.chars().filter(c -> c > 126).count());
        t.due("a package line", 0, text.startsWith("package") ? 1 : 0);
    }

    private static void read(Suite t, String path) throws Exception {
        JavaCompiler compiler = ToolProvider.getSystemJavaCompiler();
        try (StandardJavaFileManager files = compiler.getStandardFileManager(null, null, null)) {
            JavacTask task = (JavacTask) compiler.getTask(null, files, null, null, null,
                files.getJavaFileObjects(new File(path)));
            for (CompilationUnitTree unit : task.parse()) {
                LanguageTests reader = new LanguageTests(t, unit, Trees.instance(task).getSourcePositions());
                reader.scan(unit, null);
                t.due("at most twelve classes", 1, reader.classes > 0 && reader.classes <= 12 ? 1 : 0);
            }
        }
    }

    private long line(Tree tree) {
        return unit.getLineMap().getLineNumber(positions.getStartPosition(unit, tree));
    }

    private void fault(Tree tree, String what) {
        t.fault("line " + line(tree) + ": " + what);
    }

    @Override
    public Void visitImport(ImportTree tree, Void p) {
        fault(tree, "an import");
        return super.visitImport(tree, p);
    }

    @Override
    public Void visitClass(ClassTree tree, Void p) {
        classes++;
        if (depthOfClasses > 0 && !tree.getModifiers().getFlags().contains(Modifier.STATIC)) {
            fault(tree, "a class inside that is not static");
        }
        if (depthOfClasses > 1) {
            fault(tree, "a class inside a class inside");
        }
        int fields = 0;
        for (Tree member : tree.getMembers()) {
            if (member instanceof VariableTree) {
                VariableTree field = (VariableTree) member;
                Set<Modifier> flags = field.getModifiers().getFlags();
                boolean isStatic = flags.contains(Modifier.STATIC);
                fields += isStatic ? 0 : 1;
                if (isStatic && !flags.contains(Modifier.FINAL)) {
                    fault(field, "a static field that is not final");
                }
                if (isStatic && !field.getType().toString().equals("int")) {
                    fault(field, "a static field that is no int");
                }
            }
            if (member instanceof BlockTree) {
                fault(member, "an initialiser block");
            }
        }
        if (fields > 20) {
            fault(tree, fields + " fields");
        }
        depthOfClasses++;
        super.visitClass(tree, p);
        depthOfClasses--;
        return null;
    }

    @Override
    public Void visitMethod(MethodTree tree, Void p) {
        long end = unit.getLineMap().getLineNumber(positions.getEndPosition(unit, tree));
        if (end - line(tree) >= 60) {
            fault(tree, tree.getName() + " has more than sixty lines");
        }
        if (tree.getParameters().size() > 7) {
            fault(tree, tree.getName() + " takes more than seven parameters");
        }
        boolean isPublic = tree.getModifiers().getFlags().contains(Modifier.PUBLIC);
        if (!isPublic && tree.getReturnType() != null && isNameOfFace(tree.getName().toString())) {
            fault(tree, tree.getName() + " bears the name of a public one");
        }
        isInMethod = true;
        isInConstructor = tree.getReturnType() == null;
        super.visitMethod(tree, p);
        isInMethod = false;
        isInConstructor = false;
        return null;
    }

    private static boolean isNameOfFace(String name) {
        for (java.lang.reflect.Method m : Stormbond.class.getMethods()) {
            if (m.getName().equals(name)) {
                return true;
            }
        }
        return false;
    }

    @Override
    public Void visitThrow(ThrowTree tree, Void p) {
        if (isInConstructor) {
            fault(tree, "a throw in a constructor");
        }
        isInThrow = true;
        super.visitThrow(tree, p);
        isInThrow = false;
        return null;
    }

    @Override
    public Void visitNewClass(NewClassTree tree, Void p) {
        if (isInMethod && !isInThrow) {
            fault(tree, "an object made by a call");
        }
        String name = tree.getIdentifier().toString();
        if (isInThrow && !EXCEPTIONS.contains(name)) {
            fault(tree, "an exception that the document does not name");
        }
        List<? extends Tree> arguments = tree.getArguments();
        if (isInThrow && !(arguments.isEmpty() || arguments.get(0) instanceof LiteralTree)) {
            fault(tree, "an exception without a written text");
        }
        return super.visitNewClass(tree, p);
    }

    @Override
    public Void visitNewArray(NewArrayTree tree, Void p) {
        if (isInMethod) {
            fault(tree, "an array made by a call");
        }
        return super.visitNewArray(tree, p);
    }

    @Override
    public Void visitMemberSelect(MemberSelectTree tree, Void p) {
        if (tree.getExpression() instanceof IdentifierTree) {
            String from = ((IdentifierTree) tree.getExpression()).getName().toString();
            if (LIBRARY_NAMES.contains(from) && !LIBRARY.contains(tree.toString())) {
                fault(tree, tree + " of the library");
            }
        }
        return super.visitMemberSelect(tree, p);
    }

    @Override
    public Void visitTry(TryTree tree, Void p) {
        fault(tree, "a try");
        return super.visitTry(tree, p);
    }

    @Override
    public Void visitLambdaExpression(LambdaExpressionTree tree, Void p) {
        fault(tree, "a lambda");
        return super.visitLambdaExpression(tree, p);
    }

    @Override
    public Void visitMemberReference(MemberReferenceTree tree, Void p) {
        fault(tree, "a method reference");
        return super.visitMemberReference(tree, p);
    }

    @Override
    public Void visitSynchronized(SynchronizedTree tree, Void p) {
        fault(tree, "synchronized");
        return super.visitSynchronized(tree, p);
    }

    @Override
    public Void visitAssert(AssertTree tree, Void p) {
        fault(tree, "assert");
        return super.visitAssert(tree, p);
    }

    @Override
    public Void visitBinary(BinaryTree tree, Void p) {
        boolean isText = tree.getLeftOperand().getKind() == Tree.Kind.STRING_LITERAL
            || tree.getRightOperand().getKind() == Tree.Kind.STRING_LITERAL;
        if (isText) {
            fault(tree, "texts joined by +");
        }
        return super.visitBinary(tree, p);
    }

    @Override
    public Void visitArrayAccess(ArrayAccessTree tree, Void p) {
        if (tree.getIndex() instanceof LiteralTree && !tree.getIndex().toString().equals("0")) {
            fault(tree, "an index that is a bare number");
        }
        return super.visitArrayAccess(tree, p);
    }
}
