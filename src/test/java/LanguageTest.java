import com.sun.source.tree.ArrayAccessTree;
import com.sun.source.tree.AssertTree;
import com.sun.source.tree.BinaryTree;
import com.sun.source.tree.BlockTree;
import com.sun.source.tree.ClassTree;
import com.sun.source.tree.CompilationUnitTree;
import com.sun.source.tree.CompoundAssignmentTree;
import com.sun.source.tree.DoWhileLoopTree;
import com.sun.source.tree.ExpressionTree;
import com.sun.source.tree.ForLoopTree;
import com.sun.source.tree.InstanceOfTree;
import com.sun.source.tree.LambdaExpressionTree;
import com.sun.source.tree.LiteralTree;
import com.sun.source.tree.MemberReferenceTree;
import com.sun.source.tree.MethodInvocationTree;
import com.sun.source.tree.MethodTree;
import com.sun.source.tree.NewArrayTree;
import com.sun.source.tree.NewClassTree;
import com.sun.source.tree.SynchronizedTree;
import com.sun.source.tree.ThrowTree;
import com.sun.source.tree.Tree;
import com.sun.source.tree.TryTree;
import com.sun.source.tree.VariableTree;
import com.sun.source.tree.WhileLoopTree;
import com.sun.source.util.JavacTask;
import com.sun.source.util.SourcePositions;
import com.sun.source.util.TreePath;
import com.sun.source.util.TreePathScanner;
import com.sun.source.util.Trees;
import java.io.File;
import java.io.IOException;
import java.util.HashMap;
import java.util.HashSet;
import java.util.List;
import java.util.Map;
import java.util.Set;
import java.util.TreeSet;
import javax.lang.model.element.Element;
import javax.lang.model.element.ElementKind;
import javax.lang.model.element.Modifier;
import javax.lang.model.type.TypeMirror;
import javax.tools.JavaCompiler;
import javax.tools.StandardJavaFileManager;
import javax.tools.ToolProvider;

/**
 * The rules of LANGUAGE.md that can be read from the source. It is stricter than these where the class uses less
 * than they leave: no try, no doubles, no list, and nothing is made but in constructors.
 */
public final class LanguageTest extends TreePathScanner<Void, Void> {
    private static final String SOURCE = "src/main/java/StainStreet.java";
    private static final Set<String> LIBRARY = Set.of("String.length", "String.charAt", "Math.min", "Math.max",
            "Math.abs", "Integer.bitCount", "System.arraycopy");
    private static final Set<String> EXCEPTIONS = Set.of("IllegalStateException", "IllegalArgumentException",
            "IndexOutOfBoundsException", "ArithmeticException", "UnsupportedOperationException",
            "NoSuchElementException", "RuntimeException");
    private static final Set<String> TYPES = Set.of("int", "long", "boolean", "char", "byte", "short",
            "java.lang.String");
    private static final Set<String> CONSTANTS = Set.of("int", "long", "boolean", "char", "java.lang.String", "int[]",
            "long[]", "char[]", "byte[]");
    private static final int MOST_LINES = 60;
    private static final int MOST_PARAMETERS = 7;
    private static final int MOST_CLASSES = 12;
    private static final int MOST_FIELDS = 20;
    private static final int MOST_DEEP = 8;

    private final Trees trees;
    private final CompilationUnitTree unit;
    private final Map<Element, Set<Element>> calls = new HashMap<>();
    private final Set<String> publicNames = new TreeSet<>();
    private final Set<String> otherNames = new TreeSet<>();
    private Element method;
    private int classes;

    private LanguageTest(Trees trees, CompilationUnitTree unit) {
        this.trees = trees;
        this.unit = unit;
    }

    private long lineOf(Tree tree) {
        return unit.getLineMap().getLineNumber(trees.getSourcePositions().getStartPosition(unit, tree));
    }

    private void holds(String rule, Tree tree, boolean is) {
        Check.due("rule " + rule + ", line " + lineOf(tree), is, true);
    }

    private TypeMirror typeOf(Tree tree) {
        return trees.getTypeMirror(new TreePath(getCurrentPath(), tree));
    }

    private boolean isText(ExpressionTree tree) {
        TypeMirror type = typeOf(tree);
        return type != null && type.toString().equals("java.lang.String");
    }

    private static boolean isOwn(String type) {
        return type.equals("StainStreet") || type.startsWith("StainStreet.");
    }

    private boolean isInConstructor() {
        return method == null || method.getKind() == ElementKind.CONSTRUCTOR;
    }

    // ---- classes, fields and methods

    @Override
    public Void visitClass(ClassTree tree, Void none) {
        classes++;
        Set<Modifier> modifiers = tree.getModifiers().getFlags();
        boolean isTop = getCurrentPath().getParentPath().getLeaf() instanceof CompilationUnitTree;
        holds("1 and 2, no class but the face and static ones inside it", tree, isTop
                ? modifiers.equals(Set.of(Modifier.PUBLIC, Modifier.FINAL))
                : modifiers.contains(Modifier.STATIC) && !modifiers.contains(Modifier.PUBLIC)
                        && !modifiers.contains(Modifier.PROTECTED));
        int fields = 0;
        for (Tree member : tree.getMembers()) {
            boolean isField = member instanceof VariableTree;
            fields += isField && !isStatic((VariableTree) member) ? 1 : 0;
            holds("5, no initialiser block", member, !(member instanceof BlockTree));
        }
        holds("11, fields of a class: " + fields, tree, fields <= MOST_FIELDS);
        Element outside = method;
        method = null;
        super.visitClass(tree, none);
        method = outside;
        return null;
    }

    private static boolean isStatic(VariableTree field) {
        return field.getModifiers().getFlags().contains(Modifier.STATIC);
    }

    @Override
    public Void visitVariable(VariableTree tree, Void none) {
        String type = trees.getTypeMirror(getCurrentPath()).toString();
        String base = type.endsWith("[]") ? type.substring(0, type.length() - 2) : type;
        holds("3, the type " + type, tree, TYPES.contains(base) || isOwn(base));
        if (isStatic(tree)) {
            boolean isWritten = !type.endsWith("[]") || tree.getInitializer() instanceof NewArrayTree;
            holds("5, a static field", tree, tree.getModifiers().getFlags().contains(Modifier.FINAL)
                    && CONSTANTS.contains(type) && isWritten);
        }
        return super.visitVariable(tree, none);
    }

    @Override
    public Void visitMethod(MethodTree tree, Void none) {
        method = trees.getElement(getCurrentPath());
        calls.putIfAbsent(method, new HashSet<>());
        SourcePositions positions = trees.getSourcePositions();
        if (positions.getEndPosition(unit, tree) >= 0) {
            long last = unit.getLineMap().getLineNumber(positions.getEndPosition(unit, tree));
            holds("11, lines of " + tree.getName(), tree, last - lineOf(tree) < MOST_LINES);
        }
        holds("11, parameters of " + tree.getName(), tree, tree.getParameters().size() <= MOST_PARAMETERS);
        boolean isConstructor = method.getKind() == ElementKind.CONSTRUCTOR;
        boolean isPublic = tree.getModifiers().getFlags().contains(Modifier.PUBLIC);
        if (!isConstructor) {
            (isPublic ? publicNames : otherNames).add(tree.getName().toString());
        }
        super.visitMethod(tree, none);
        method = null;
        return null;
    }

    // ---- what is called and made

    @Override
    public Void visitMethodInvocation(MethodInvocationTree tree, Void none) {
        Element called = trees.getElement(getCurrentPath());
        String owner = called.getEnclosingElement().toString();
        if (isOwn(owner)) {
            if (method != null) {
                calls.get(method).add(called);
            }
        } else if (called.getKind() != ElementKind.CONSTRUCTOR) {
            String name = called.getEnclosingElement().getSimpleName() + "." + called.getSimpleName();
            holds("4, the library's " + name, tree, LIBRARY.contains(name));
        }
        return super.visitMethodInvocation(tree, none);
    }

    @Override
    public Void visitNewClass(NewClassTree tree, Void none) {
        boolean isThrown = getCurrentPath().getParentPath().getLeaf() instanceof ThrowTree;
        String type = typeOf(tree).toString();
        holds("4, new " + type, tree, isThrown || isOwn(type));
        holds("12, new " + type + " but in a constructor", tree, isThrown || isInConstructor());
        holds("2, no anonymous class", tree, tree.getClassBody() == null);
        return super.visitNewClass(tree, none);
    }

    @Override
    public Void visitNewArray(NewArrayTree tree, Void none) {
        holds("12, a new array but in a constructor", tree, isInConstructor());
        return super.visitNewArray(tree, none);
    }

    @Override
    public Void visitThrow(ThrowTree tree, Void none) {
        String name = tree.getExpression() instanceof NewClassTree made ? made.getIdentifier().toString() : "";
        holds("6, throw new " + name, tree, EXCEPTIONS.contains(name) && !isInConstructor());
        return super.visitThrow(tree, none);
    }

    // ---- signs and words

    @Override
    public Void visitBinary(BinaryTree tree, Void none) {
        boolean joins = isText(tree.getLeftOperand()) || isText(tree.getRightOperand());
        holds("6 and 10, texts neither joined by + nor laid beside one another", tree, !joins);
        return super.visitBinary(tree, none);
    }

    @Override
    public Void visitCompoundAssignment(CompoundAssignmentTree tree, Void none) {
        holds("10, no text joined by +=", tree, !isText(tree.getVariable()));
        return super.visitCompoundAssignment(tree, none);
    }

    @Override
    public Void visitLiteral(LiteralTree tree, Void none) {
        boolean isPlain = true;
        if (tree.getValue() instanceof String text) {
            for (char sign : text.toCharArray()) {
                isPlain &= sign >= 1 && sign <= 127;
            }
        }
        holds("4, signs of a text", tree, isPlain);
        holds("3, no doubles", tree, !(tree.getValue() instanceof Double) && !(tree.getValue() instanceof Float));
        return super.visitLiteral(tree, none);
    }

    private void noSuch(String what, Tree tree) {
        holds("2, 6 or 9, no " + what, tree, false);
    }

    @Override
    public Void visitLambdaExpression(LambdaExpressionTree tree, Void none) {
        noSuch("lambda", tree);
        return null;
    }

    @Override
    public Void visitMemberReference(MemberReferenceTree tree, Void none) {
        noSuch("method reference", tree);
        return null;
    }

    @Override
    public Void visitTry(TryTree tree, Void none) {
        noSuch("try", tree);
        return null;
    }

    @Override
    public Void visitSynchronized(SynchronizedTree tree, Void none) {
        noSuch("synchronized", tree);
        return null;
    }

    @Override
    public Void visitAssert(AssertTree tree, Void none) {
        noSuch("assert", tree);
        return null;
    }

    @Override
    public Void visitInstanceOf(InstanceOfTree tree, Void none) {
        noSuch("instanceof, as no class has others below it", tree);
        return null;
    }

    // ---- loops

    private void bounded(Tree loop, ExpressionTree condition) {
        boolean compares = condition != null && condition.toString().matches("(?s).*[<>].*");
        holds("9, a loop's end in its own lines", loop, compares);
        holds("7, a loop over houses within the rows: houseCount()", loop,
                condition == null || !condition.toString().matches("(?s).*\\.houses\\b.*"));
    }

    @Override
    public Void visitArrayAccess(ArrayAccessTree tree, Void none) {
        boolean isTable = tree.getExpression().toString().equals("table");
        boolean isGuarded = method != null && Set.of("entry", "enter").contains(method.getSimpleName().toString());
        holds("7, the table by entry and enter, which look at the index", tree, !isTable || isGuarded);
        return super.visitArrayAccess(tree, none);
    }

    @Override
    public Void visitForLoop(ForLoopTree tree, Void none) {
        bounded(tree, tree.getCondition());
        return super.visitForLoop(tree, none);
    }

    @Override
    public Void visitWhileLoop(WhileLoopTree tree, Void none) {
        bounded(tree, tree.getCondition());
        return super.visitWhileLoop(tree, none);
    }

    @Override
    public Void visitDoWhileLoop(DoWhileLoopTree tree, Void none) {
        bounded(tree, tree.getCondition());
        return super.visitDoWhileLoop(tree, none);
    }

    // ---- all together

    /** How many methods stand open at once below this one, each counted once. */
    private int deepest(Element from, Set<Element> open) {
        open.add(from);
        int deepest = 0;
        for (Element called : calls.getOrDefault(from, Set.of())) {
            if (!open.contains(called)) {
                deepest = Math.max(deepest, deepest(called, open));
            }
        }
        open.remove(from);
        return deepest + 1;
    }

    private void checkAll() {
        scan(unit, null);
        Check.due("rule 1, no package", unit.getPackage() == null, true);
        Check.due("rule 1, one class in the file", unit.getTypeDecls().size(), 1);
        Check.due("rule 4, imports", unit.getImports().size(), 1);
        Check.due("rule 11, classes: " + classes, classes <= MOST_CLASSES, true);
        for (Element from : calls.keySet()) {
            int deep = deepest(from, new HashSet<>());
            Check.due("rule 11, " + from + " goes " + deep + " deep", deep <= MOST_DEEP, true);
        }
        for (String name : otherNames) {
            Check.due("rule 1, " + name + " bears a public name", publicNames.contains(name), false);
        }
    }

    public static void main(String[] args) throws IOException {
        JavaCompiler compiler = ToolProvider.getSystemJavaCompiler();
        try (StandardJavaFileManager files = compiler.getStandardFileManager(null, null, null)) {
            JavacTask task = (JavacTask) compiler.getTask(null, files, null, List.of("--release", "17"), null,
                    files.getJavaFileObjects(new File(SOURCE)));
            CompilationUnitTree unit = task.parse().iterator().next();
            task.analyze();
            new LanguageTest(Trees.instance(task), unit).checkAll();
        }
        Check.end("LanguageTest");
    }
}
