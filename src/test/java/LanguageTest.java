import com.sun.source.tree.ArrayAccessTree;
import com.sun.source.tree.BinaryTree;
import com.sun.source.tree.BlockTree;
import com.sun.source.tree.ClassTree;
import com.sun.source.tree.CompilationUnitTree;
import com.sun.source.tree.CompoundAssignmentTree;
import com.sun.source.tree.ForLoopTree;
import com.sun.source.tree.IdentifierTree;
import com.sun.source.tree.ImportTree;
import com.sun.source.tree.LiteralTree;
import com.sun.source.tree.MethodInvocationTree;
import com.sun.source.tree.MethodTree;
import com.sun.source.tree.NewArrayTree;
import com.sun.source.tree.NewClassTree;
import com.sun.source.tree.ThrowTree;
import com.sun.source.tree.Tree;
import com.sun.source.tree.Tree.Kind;
import com.sun.source.tree.TypeCastTree;
import com.sun.source.tree.VariableTree;
import com.sun.source.util.JavacTask;
import com.sun.source.util.SourcePositions;
import com.sun.source.util.TreePathScanner;
import com.sun.source.util.Trees;
import java.io.IOException;
import java.nio.file.Files;
import java.util.EnumSet;
import java.util.List;
import java.util.Map;
import java.util.Set;
import java.util.TreeMap;
import java.util.TreeSet;
import javax.lang.model.element.Element;
import javax.lang.model.element.ElementKind;
import javax.lang.model.element.Modifier;
import javax.tools.JavaCompiler;
import javax.tools.StandardJavaFileManager;
import javax.tools.ToolProvider;

/**
 * The rules of LANGUAGE.md that can be read from the class's text, as narrow as the class keeps
 * them now: no exceptions are caught, nothing is made besides what constructors make, and arrays
 * and divisors are used only where they are looked at first.
 */
public final class LanguageTest extends TreePathScanner<Void, Void> {
    private static final Set<String> LIBRARY = Set.of("Long.bitCount", "Math.min");
    private static final Set<String> THROWN = Set.of("IllegalStateException",
            "IllegalArgumentException", "IndexOutOfBoundsException", "NoSuchElementException");
    private static final Set<String> USE_ARRAYS = Set.of("Relationrows", "relationAt", "lowAt",
            "highAt", "putWords", "findOrder", "orderedAt", "classesPartElements");
    private static final Set<String> DIVIDE = Set.of("meanRow", "share", "elementOf");
    private static final Set<Kind> RULED_OUT = EnumSet.of(Kind.LAMBDA_EXPRESSION,
            Kind.MEMBER_REFERENCE, Kind.SYNCHRONIZED, Kind.ASSERT, Kind.TRY, Kind.INSTANCE_OF,
            Kind.SWITCH_EXPRESSION, Kind.ANNOTATION, Kind.PACKAGE, Kind.WHILE_LOOP,
            Kind.DO_WHILE_LOOP, Kind.ENHANCED_FOR_LOOP, Kind.LABELED_STATEMENT);

    private final Check check = new Check("LanguageTest");
    private final Map<String, Set<String>> calls = new TreeMap<>();
    private final Trees trees;
    private final CompilationUnitTree unit;
    private String method = "";
    private boolean isConstructor = false;
    private boolean isThrown = false;
    private int classes = 0;

    private LanguageTest(Trees trees, CompilationUnitTree unit) {
        this.trees = trees;
        this.unit = unit;
    }

    private void keeps(int rule, String what, boolean isKept) {
        check.due("rule " + rule + ": " + what + " in " + method, isKept, true);
    }

    @Override
    public Void scan(Tree tree, Void nothing) {
        if (tree != null && RULED_OUT.contains(tree.getKind())) {
            check.dueText("a kind of words in " + method, tree.getKind().toString(), "none");
        }
        return super.scan(tree, nothing);
    }

    @Override
    public Void visitImport(ImportTree tree, Void nothing) {
        keeps(4, tree.toString(), tree.getQualifiedIdentifier().toString()
                .equals("java.util.NoSuchElementException"));
        return null;
    }

    @Override
    public Void visitClass(ClassTree tree, Void nothing) {
        classes++;
        Set<Modifier> signs = tree.getModifiers().getFlags();
        boolean isFace = tree.getSimpleName().contentEquals("Relationrows");
        keeps(1, "class " + tree.getSimpleName(), signs.contains(Modifier.FINAL)
                && signs.contains(isFace ? Modifier.PUBLIC : Modifier.PRIVATE));
        keeps(2, "class " + tree.getSimpleName(), isFace || signs.contains(Modifier.STATIC));
        int fields = 0;
        for (Tree member : tree.getMembers()) {
            keeps(5, "a block outside of methods", !(member instanceof BlockTree));
            if (member instanceof VariableTree field) {
                fields += isConstant(field) ? 0 : 1;
            }
        }
        keeps(11, fields + " fields", fields <= 20);
        return super.visitClass(tree, nothing);
    }

    private boolean isConstant(VariableTree field) {
        Set<Modifier> signs = field.getModifiers().getFlags();
        boolean isStatic = signs.contains(Modifier.STATIC);
        keeps(5, field.toString(), !isStatic || signs.contains(Modifier.FINAL)
                && field.getType().toString().equals("int"));
        return isStatic;
    }

    @Override
    public Void visitMethod(MethodTree tree, Void nothing) {
        Element element = trees.getElement(getCurrentPath());
        isConstructor = element.getKind() == ElementKind.CONSTRUCTOR;
        method = nameOf(element);
        calls.computeIfAbsent(method, name -> new TreeSet<>());
        keeps(11, tree.getParameters().size() + " parameters", tree.getParameters().size() <= 7);
        keeps(11, linesOf(tree) + " lines", linesOf(tree) <= 60);
        super.visitMethod(tree, nothing);
        method = "";
        isConstructor = false;
        return null;
    }

    private long linesOf(Tree tree) {
        SourcePositions positions = trees.getSourcePositions();
        return unit.getLineMap().getLineNumber(positions.getEndPosition(unit, tree))
                - unit.getLineMap().getLineNumber(positions.getStartPosition(unit, tree)) + 1;
    }

    private static String nameOf(Element element) {
        String owner = element.getEnclosingElement().getSimpleName().toString();
        return owner + "." + element.getSimpleName();
    }

    private String shortName() {
        return isConstructor ? "Relationrows" : method.replaceFirst("^.*\\.", "");
    }

    @Override
    public Void visitMethodInvocation(MethodInvocationTree tree, Void nothing) {
        Element called = trees.getElement(getCurrentPath());
        String name = nameOf(called);
        boolean isOwn = trees.getTree(called) != null;
        // A constructor calls that of Object by itself.
        boolean isSuper = called.getKind() == ElementKind.CONSTRUCTOR;
        keeps(4, "the library's " + name, isOwn || isSuper || LIBRARY.contains(name));
        keeps(12, "a call of " + name, !isConstructor || isSuper);
        if (isOwn) {
            calls.computeIfAbsent(method, caller -> new TreeSet<>()).add(name);
        }
        return super.visitMethodInvocation(tree, nothing);
    }

    @Override
    public Void visitThrow(ThrowTree tree, Void nothing) {
        boolean isNew = tree.getExpression() instanceof NewClassTree;
        keeps(6, tree.toString(), isNew && !isConstructor && !method.isEmpty());
        if (tree.getExpression() instanceof NewClassTree made) {
            boolean isText = made.getArguments().size() == 1
                    && made.getArguments().get(0).getKind() == Kind.STRING_LITERAL;
            keeps(6, tree.toString(), isText && THROWN.contains(made.getIdentifier().toString()));
        }
        isThrown = true;
        super.visitThrow(tree, nothing);
        isThrown = false;
        return null;
    }

    @Override
    public Void visitLiteral(LiteralTree tree, Void nothing) {
        keeps(3, "the text " + tree, tree.getKind() != Kind.STRING_LITERAL || isThrown);
        return super.visitLiteral(tree, nothing);
    }

    @Override
    public Void visitNewClass(NewClassTree tree, Void nothing) {
        keeps(12, tree.toString(), isThrown || isConstructor || method.isEmpty());
        keeps(2, tree.toString(), tree.getClassBody() == null);
        return super.visitNewClass(tree, nothing);
    }

    @Override
    public Void visitNewArray(NewArrayTree tree, Void nothing) {
        boolean isConstant = tree.getDimensions().size() == 1
                && tree.getDimensions().get(0) instanceof IdentifierTree length
                && length.getName().toString().matches("[A-Z_]+");
        keeps(12, tree.toString(), (isConstructor || method.isEmpty()) && isConstant);
        return super.visitNewArray(tree, nothing);
    }

    @Override
    public Void visitArrayAccess(ArrayAccessTree tree, Void nothing) {
        keeps(7, tree.toString(), USE_ARRAYS.contains(shortName()));
        return super.visitArrayAccess(tree, nothing);
    }

    @Override
    public Void visitBinary(BinaryTree tree, Void nothing) {
        boolean divides = tree.getKind() == Kind.DIVIDE || tree.getKind() == Kind.REMAINDER;
        keeps(7, tree.toString(), !divides || DIVIDE.contains(shortName()));
        return super.visitBinary(tree, nothing);
    }

    @Override
    public Void visitCompoundAssignment(CompoundAssignmentTree tree, Void nothing) {
        keeps(7, tree.toString(), tree.getKind() != Kind.DIVIDE_ASSIGNMENT
                && tree.getKind() != Kind.REMAINDER_ASSIGNMENT);
        return super.visitCompoundAssignment(tree, nothing);
    }

    @Override
    public Void visitTypeCast(TypeCastTree tree, Void nothing) {
        keeps(7, tree.toString(), tree.getType().getKind() == Kind.PRIMITIVE_TYPE);
        return super.visitTypeCast(tree, nothing);
    }

    @Override
    public Void visitForLoop(ForLoopTree tree, Void nothing) {
        boolean isCounted = tree.getInitializer().size() == 1 && tree.getUpdate().size() == 1
                && tree.getInitializer().get(0) instanceof VariableTree counter
                && String.valueOf(tree.getCondition()).matches(
                        counter.getName() + " (\\+ 1 )?(<|<=|>=) .*")
                && tree.getUpdate().get(0).toString().matches(
                        counter.getName() + "(\\+\\+|--);?");
        keeps(9, "for (" + tree.getCondition() + ")", isCounted);
        return super.visitForLoop(tree, nothing);
    }

    private int depthOf(String name, int above) {
        if (above > 40) {
            return above;
        }
        int deepest = 1;
        for (String called : calls.getOrDefault(name, Set.of())) {
            deepest = Math.max(deepest, 1 + depthOf(called, above + 1));
        }
        return deepest;
    }

    private void end() throws IOException {
        for (String name : calls.keySet()) {
            int depth = depthOf(name, 0);
            check.due("rule 11: calls from " + name + " go " + depth + " deep", depth <= 8, true);
        }
        check.due("rule 11: " + classes + " classes", classes <= 12, true);
        check.due("signs 1 to 127", Files.readString(Source.FILE).chars()
                .allMatch(sign -> sign >= 1 && sign <= 127), true);
        check.end();
    }

    public static void main(String[] args) throws IOException {
        JavaCompiler compiler = ToolProvider.getSystemJavaCompiler();
        try (StandardJavaFileManager files = compiler.getStandardFileManager(null, null, null)) {
            JavacTask task = (JavacTask) compiler.getTask(null, files, null,
                    List.of("-proc:none"), null, files.getJavaFileObjects(Source.FILE));
            CompilationUnitTree unit = task.parse().iterator().next();
            task.analyze();
            LanguageTest test = new LanguageTest(Trees.instance(task), unit);
            test.scan(unit, null);
            test.end();
        }
    }
}
