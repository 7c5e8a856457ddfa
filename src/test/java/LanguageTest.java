import com.sun.source.tree.AssertTree;
import com.sun.source.tree.BinaryTree;
import com.sun.source.tree.ClassTree;
import com.sun.source.tree.CompilationUnitTree;
import com.sun.source.tree.CompoundAssignmentTree;
import com.sun.source.tree.ImportTree;
import com.sun.source.tree.LambdaExpressionTree;
import com.sun.source.tree.LineMap;
import com.sun.source.tree.LiteralTree;
import com.sun.source.tree.MemberReferenceTree;
import com.sun.source.tree.MethodInvocationTree;
import com.sun.source.tree.MethodTree;
import com.sun.source.tree.NewArrayTree;
import com.sun.source.tree.NewClassTree;
import com.sun.source.tree.SynchronizedTree;
import com.sun.source.tree.ThrowTree;
import com.sun.source.tree.Tree;
import com.sun.source.tree.TryTree;
import com.sun.source.tree.TypeCastTree;
import com.sun.source.tree.VariableTree;
import com.sun.source.util.JavacTask;
import com.sun.source.util.SourcePositions;
import com.sun.source.util.TreePath;
import com.sun.source.util.TreePathScanner;
import com.sun.source.util.Trees;
import java.io.File;
import java.io.IOException;
import java.util.ArrayList;
import java.util.Arrays;
import java.util.HashSet;
import java.util.List;
import java.util.Map;
import java.util.Set;
import java.util.TreeMap;
import java.util.TreeSet;
import javax.lang.model.element.Element;
import javax.lang.model.element.ElementKind;
import javax.lang.model.element.Modifier;
import javax.lang.model.type.TypeMirror;
import javax.tools.JavaCompiler;
import javax.tools.StandardJavaFileManager;
import javax.tools.ToolProvider;

/**
 * The form of the class: what of ../shared/LANGUAGE.md a program can tell by its text, rule by rule. Where the class
 * keeps to less than a rule leaves, the test does so too, and says that it is our own.
 */
public final class LanguageTest extends TreePathScanner<Void, Void> {
    private static final String FILE = "src/main/java/CuckooShares.java";
    private static final int LINES_MOST = 60;
    private static final int PARAMETERS_MOST = 7;
    private static final int CLASSES_MOST = 12;
    private static final int FIELDS_MOST = 20;
    private static final int DEEP_MOST = 8;
    // Of the library of rule 4 what the class uses; more of it may be put here.
    private static final Set<String> LIBRARY = new HashSet<>(Arrays.asList(
        "String.length", "String.charAt", "Integer.bitCount", "Math.abs", "Math.max", "Math.min", "System.arraycopy"));
    private static final Set<String> TYPES = new HashSet<>(Arrays.asList(
        "int", "long", "byte", "boolean", "java.lang.String", "int[]", "long[]", "byte[]", "int[][]"));
    private static final Check CHECK = new Check();

    private final Trees trees;
    private final CompilationUnitTree unit;
    private final SourcePositions positions;
    private final Map<String, Set<String>> callsOf = new TreeMap<>();
    private final Set<String> face = new TreeSet<>();
    private int classes;

    private LanguageTest(Trees trees, CompilationUnitTree unit) {
        this.trees = trees;
        this.unit = unit;
        this.positions = trees.getSourcePositions();
    }

    public static void main(String[] args) throws IOException {
        JavaCompiler compiler = ToolProvider.getSystemJavaCompiler();
        try (StandardJavaFileManager files = compiler.getStandardFileManager(null, null, null)) {
            JavacTask task = (JavacTask) compiler.getTask(null, files, null, Arrays.asList("-proc:none"), null,
                files.getJavaFileObjects(new File(FILE)));
            CompilationUnitTree unit = task.parse().iterator().next();
            task.analyze();
            LanguageTest test = new LanguageTest(Trees.instance(task), unit);
            test.scan(unit, null);
            test.depths();
            test.classesInAll();
        }
        CHECK.end();
    }

    private void good(boolean good, Tree tree, String rule) {
        CHECK.about(rule);
        CHECK.due("line " + line(positions.getStartPosition(unit, tree)), good, true);
    }

    private long line(long place) {
        LineMap lines = unit.getLineMap();
        return place < 0 ? 0 : lines.getLineNumber(place);
    }

    private Element elementHere() {
        return trees.getElement(getCurrentPath());
    }

    /** The method or constructor that holds what is scanned now; null in a field. */
    private MethodTree methodHere() {
        for (TreePath p = getCurrentPath(); p != null; p = p.getParentPath()) {
            if (p.getLeaf() instanceof MethodTree) {
                return (MethodTree) p.getLeaf();
            }
        }
        return null;
    }

    private boolean inConstructor() {
        MethodTree method = methodHere();
        return method != null && method.getName().contentEquals("<init>");
    }

    private static boolean isOwn(Element type) {
        return type.toString().startsWith("CuckooShares");
    }

    private static String nameOf(Element method) {
        return method.getEnclosingElement().getSimpleName() + "." + method;
    }

    // ---- rules 1, 2, 5, 11: classes and fields

    @Override
    public Void visitImport(ImportTree tree, Void none) {
        good(tree.getQualifiedIdentifier().toString().equals("java.util.NoSuchElementException"), tree, "rule 4: no other import");
        return super.visitImport(tree, none);
    }

    @Override
    public Void visitClass(ClassTree tree, Void none) {
        classes++;
        Set<Modifier> modifiers = tree.getModifiers().getFlags();
        boolean outer = tree.getSimpleName().contentEquals("CuckooShares");
        good(tree.getKind() == Tree.Kind.CLASS && modifiers.contains(Modifier.FINAL), tree, "rule 2: a final class");
        good(outer || modifiers.contains(Modifier.STATIC), tree, "rule 1: classes inside are static");
        int fields = 0;
        for (Tree member : tree.getMembers()) {
            good(member.getKind() != Tree.Kind.BLOCK, member, "rule 5: no initialiser block");
            if (member instanceof VariableTree && !((VariableTree) member).getModifiers().getFlags().contains(Modifier.STATIC)) {
                fields++;
            }
        }
        good(fields <= FIELDS_MOST, tree, "rule 11: some twenty fields");
        return super.visitClass(tree, none);
    }

    @Override
    public Void visitVariable(VariableTree tree, Void none) {
        Element element = elementHere();
        Set<Modifier> modifiers = tree.getModifiers().getFlags();
        boolean constant = modifiers.contains(Modifier.STATIC);
        String type = element.asType().toString();
        good(TYPES.contains(type) || type.startsWith("CuckooShares"), tree, "rule 3: types");
        good(!constant || modifiers.contains(Modifier.FINAL), tree, "rule 5: static fields are final");
        good(!constant || type.equals("int") || type.equals("java.lang.String"), tree, "rule 5: constants");
        return super.visitVariable(tree, none);
    }

    private void classesInAll() {
        CHECK.about("rule 11: at most some twelve classes");
        CHECK.due(classes + " classes", classes <= CLASSES_MOST, true);
    }

    // ---- rules 4, 11: methods and calls

    @Override
    public Void visitMethod(MethodTree tree, Void none) {
        Element element = elementHere();
        long first = line(positions.getStartPosition(unit, tree));
        long last = line(positions.getEndPosition(unit, tree));
        good(last - first < LINES_MOST, tree, "rule 11: methods stay short");
        good(tree.getParameters().size() <= PARAMETERS_MOST, tree, "rule 11: at most seven parameters");
        callsOf.computeIfAbsent(nameOf(element), name -> new TreeSet<>());
        if (element.getModifiers().contains(Modifier.PUBLIC)) {
            face.add(nameOf(element));
        }
        return super.visitMethod(tree, none);
    }

    @Override
    public Void visitMethodInvocation(MethodInvocationTree tree, Void none) {
        Element called = trees.getElement(new TreePath(getCurrentPath(), tree.getMethodSelect()));
        Element owner = called.getEnclosingElement();
        if (called.getKind() == ElementKind.CONSTRUCTOR) {
            return super.visitMethodInvocation(tree, none);
        }
        good(!inConstructor(), tree, "our own, for rule 12: constructors call no method");
        if (isOwn(owner)) {
            Element here = trees.getElement(trees.getPath(unit, methodHere()));
            callsOf.computeIfAbsent(nameOf(here), name -> new TreeSet<>()).add(nameOf(called));
            good(!called.getModifiers().contains(Modifier.PUBLIC), tree, "our own, for rule 11: no call of the face calls another one");
        } else {
            good(LIBRARY.contains(owner.getSimpleName() + "." + called.getSimpleName()), tree, "rule 4: the library");
        }
        return super.visitMethodInvocation(tree, none);
    }

    private void depths() {
        CHECK.about("rule 11: calls that are no recursion go at most eight deep");
        for (String name : face) {
            int deep = depth(name, new ArrayList<>());
            CHECK.due(name + " goes " + deep + " deep", deep <= DEEP_MOST, true);
        }
    }

    /** How many calls stand open at most; those that call one another stand for one: they are a recursion. */
    private int depth(String name, List<String> open) {
        if (open.contains(name)) {
            return 0;
        }
        boolean goesOn = !open.isEmpty() && comesTo(name, open.get(open.size() - 1), new HashSet<>());
        open.add(name);
        int deepest = 0;
        for (String called : callsOf.get(name)) {
            deepest = Math.max(deepest, depth(called, open));
        }
        open.remove(name);
        return deepest + (goesOn ? 0 : 1);
    }

    private boolean comesTo(String from, String to, Set<String> seen) {
        boolean comes = false;
        for (String called : callsOf.get(from)) {
            comes |= called.equals(to) || seen.add(called) && comesTo(called, to, seen);
        }
        return comes;
    }

    // ---- rules 6, 12: exceptions, what is made

    @Override
    public Void visitThrow(ThrowTree tree, Void none) {
        boolean plain = false;
        if (tree.getExpression() instanceof NewClassTree) {
            NewClassTree made = (NewClassTree) tree.getExpression();
            plain = made.getIdentifier().toString().equals("NoSuchElementException") && made.getArguments().size() <= 1
                && made.getArguments().stream().allMatch(a -> a.getKind() == Tree.Kind.STRING_LITERAL);
        }
        good(plain, tree, "rule 6: throw new E(), throw new E(\"a written text\")");
        good(!inConstructor(), tree, "rule 6: no throw in a constructor");
        return super.visitThrow(tree, none);
    }

    private boolean isMadeOnce() {
        return methodHere() == null || inConstructor();
    }

    @Override
    public Void visitNewClass(NewClassTree tree, Void none) {
        boolean thrown = getCurrentPath().getParentPath().getLeaf() instanceof ThrowTree;
        good(thrown || isMadeOnce(), tree, "our own, for rule 12: rows are made in constructors");
        return super.visitNewClass(tree, none);
    }

    @Override
    public Void visitNewArray(NewArrayTree tree, Void none) {
        good(isMadeOnce(), tree, "our own, for rule 12: rows are made in constructors");
        return super.visitNewArray(tree, none);
    }

    @Override
    public Void visitTry(TryTree tree, Void none) {
        good(false, tree, "our own, for rule 6: nothing is caught");
        return super.visitTry(tree, none);
    }

    @Override
    public Void visitSynchronized(SynchronizedTree tree, Void none) {
        good(false, tree, "rule 6: no synchronized");
        return super.visitSynchronized(tree, none);
    }

    @Override
    public Void visitAssert(AssertTree tree, Void none) {
        good(false, tree, "rule 6: no assert");
        return super.visitAssert(tree, none);
    }

    // ---- rules 2, 3, 4, 10: expressions

    @Override
    public Void visitLambdaExpression(LambdaExpressionTree tree, Void none) {
        good(false, tree, "rule 2: no lambda");
        return super.visitLambdaExpression(tree, none);
    }

    @Override
    public Void visitMemberReference(MemberReferenceTree tree, Void none) {
        good(false, tree, "rule 2: no method reference");
        return super.visitMemberReference(tree, none);
    }

    @Override
    public Void visitTypeCast(TypeCastTree tree, Void none) {
        TypeMirror type = trees.getTypeMirror(new TreePath(getCurrentPath(), tree.getType()));
        good(type.getKind().isPrimitive(), tree, "our own, for rule 7: casts of numbers alone");
        return super.visitTypeCast(tree, none);
    }

    @Override
    public Void visitBinary(BinaryTree tree, Void none) {
        good(trees.getTypeMirror(getCurrentPath()).getKind().isPrimitive(), tree, "rule 10: no texts joined by +");
        if (tree.getKind() == Tree.Kind.DIVIDE || tree.getKind() == Tree.Kind.REMAINDER) {
            divisor(new TreePath(getCurrentPath(), tree.getRightOperand()), tree);
        }
        return super.visitBinary(tree, none);
    }

    @Override
    public Void visitCompoundAssignment(CompoundAssignmentTree tree, Void none) {
        boolean divides = tree.getKind() == Tree.Kind.DIVIDE_ASSIGNMENT || tree.getKind() == Tree.Kind.REMAINDER_ASSIGNMENT;
        good(!divides, tree, "rule 7: a divisor is looked at before it divides");
        return super.visitCompoundAssignment(tree, none);
    }

    /** Divisors that were read one by one: constants, and those that the lines ahead of them test. */
    private void divisor(TreePath right, Tree tree) {
        Set<String> tested = new HashSet<>(Arrays.asList("low", "common", "n", "weight", "weights[side]"));
        String text = right.getLeaf().toString();
        boolean constant = text.equals("2") || text.equals("UNDO_MOST");
        good(constant || tested.contains(text), tree, "rule 7: a divisor is looked at before it divides: " + text);
    }

    @Override
    public Void visitLiteral(LiteralTree tree, Void none) {
        boolean plain = true;
        if (tree.getValue() instanceof String) {
            plain = ((String) tree.getValue()).chars().allMatch(sign -> sign >= 1 && sign <= 127);
        }
        good(plain && !(tree.getValue() instanceof Double), tree, "rule 4: texts of signs 1 to 127");
        return super.visitLiteral(tree, none);
    }
}
