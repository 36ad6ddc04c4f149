import com.sun.source.tree.AssertTree;
import com.sun.source.tree.BinaryTree;
import com.sun.source.tree.BlockTree;
import com.sun.source.tree.ClassTree;
import com.sun.source.tree.CompilationUnitTree;
import com.sun.source.tree.CompoundAssignmentTree;
import com.sun.source.tree.DoWhileLoopTree;
import com.sun.source.tree.EnhancedForLoopTree;
import com.sun.source.tree.ForLoopTree;
import com.sun.source.tree.ImportTree;
import com.sun.source.tree.InstanceOfTree;
import com.sun.source.tree.LambdaExpressionTree;
import com.sun.source.tree.LiteralTree;
import com.sun.source.tree.MemberReferenceTree;
import com.sun.source.tree.MethodInvocationTree;
import com.sun.source.tree.MethodTree;
import com.sun.source.tree.NewArrayTree;
import com.sun.source.tree.NewClassTree;
import com.sun.source.tree.SynchronizedTree;
import com.sun.source.tree.ThrowTree;
import com.sun.source.tree.Tree;
import com.sun.source.tree.TryTree;
import com.sun.source.tree.TypeCastTree;
import com.sun.source.tree.VariableTree;
import com.sun.source.tree.WhileLoopTree;
import com.sun.source.util.JavacTask;
import com.sun.source.util.TreePath;
import com.sun.source.util.TreePathScanner;
import com.sun.source.util.Trees;
import java.io.File;
import java.util.HashMap;
import java.util.HashSet;
import java.util.LinkedHashSet;
import java.util.Map;
import java.util.Set;
import javax.lang.model.element.Element;
import javax.lang.model.element.ExecutableElement;
import javax.lang.model.element.Modifier;
import javax.lang.model.type.ArrayType;
import javax.lang.model.type.TypeMirror;
import javax.tools.JavaCompiler;
import javax.tools.StandardJavaFileManager;
import javax.tools.ToolProvider;

/** The rules of LANGUAGE.md that can be looked up in the tree of the program. */
public final class LanguageTest extends TreePathScanner<Void, Void> {
    private static final Set<String> LIBRARY = Set.of("java.lang.Object.Object()",
        "java.lang.String.length()", "java.lang.String.charAt(int)",
        "java.lang.Integer.bitCount(int)", "java.lang.Math.max(int,int)",
        "java.lang.Math.min(int,int)",
        "java.lang.System.arraycopy(java.lang.Object,int,java.lang.Object,int,int)");
    private static final Set<String> FACE = Set.of("write", "wipe", "fault", "lay", "loom", "hour",
        "at", "pass", "shade", "cow", "tears", "set", "undo", "behind", "yards", "setting",
        "shading", "wants", "drips", "seen", "forget", "cows", "colds", "likely", "year", "keep",
        "back", "count");
    private static final Set<String> OF_ALL_OBJECTS = Set.of("equals", "hashCode", "toString",
        "finalize", "clone");
    // Of what rule 3 allows, what the program has.
    private static final Set<String> TYPES = Set.of("int", "long", "char", "boolean", "void",
        "java.lang.String");
    private static final Set<String> CONSTANTS = Set.of("int", "java.lang.String");
    private static final int MOST_CLASSES = 12, MOST_FIELDS = 20, MOST_PARAMETERS = 7;
    private static final int MOST_LINES = 60, DEEPEST = 8;

    private final Due due = new Due();
    private final Trees trees;
    private final CompilationUnitTree unit;
    private final Map<String, Set<String>> calls = new HashMap<>();
    private final Map<String, Integer> depths = new HashMap<>();
    private final Set<String> open = new HashSet<>();
    private final Set<String> face = new HashSet<>();
    private int classes;
    private String caller = "";
    private boolean making;

    private LanguageTest(Trees trees, CompilationUnitTree unit) {
        this.trees = trees;
        this.unit = unit;
    }

    public static void main(String[] args) throws Exception {
        JavaCompiler javac = ToolProvider.getSystemJavaCompiler();
        try (StandardJavaFileManager files = javac.getStandardFileManager(null, null, null)) {
            JavacTask task = (JavacTask) javac.getTask(null, files, null, null, null,
                files.getJavaFileObjects(new File("src/main/java/DewLooms.java")));
            CompilationUnitTree unit = task.parse().iterator().next();
            task.analyze();
            LanguageTest test = new LanguageTest(Trees.instance(task), unit);
            test.scan(unit, null);
            test.endOfAll();
        }
    }

    private void endOfAll() {
        due.isTrue("rule 1: no package", unit.getPackage() == null);
        due.isTrue("rule 1: one class outside", unit.getTypeDecls().size() == 1);
        due.isTrue("rule 1: the face " + face, face.equals(FACE));
        due.isTrue("rule 11: " + classes + " classes", classes <= MOST_CLASSES);
        for (String method : new LinkedHashSet<>(calls.keySet())) {
            int depth = depth(method);
            due.isTrue("rule 11: " + method + " goes " + depth + " deep", depth <= DEEPEST);
        }
        due.end();
    }

    /** How many calls stand open at once at most, that of the method itself among them. */
    private int depth(String method) {
        if (depths.containsKey(method)) {
            return depths.get(method);
        }
        due.isTrue("no recursion is wanted here: " + method, open.add(method));
        int deepest = 0;
        for (String called : calls.getOrDefault(method, Set.of())) {
            deepest = Math.max(deepest, open.contains(called) ? DEEPEST : depth(called));
        }
        open.remove(method);
        depths.put(method, deepest + 1);
        return deepest + 1;
    }

    private void never(String rule, Tree tree) {
        long line = unit.getLineMap().getLineNumber(
            trees.getSourcePositions().getStartPosition(unit, tree));
        due.isTrue(rule + ", line " + line, false);
    }

    private TypeMirror typeOf(Tree tree) {
        return trees.getTypeMirror(new TreePath(getCurrentPath(), tree));
    }

    private boolean isText(Tree tree) {
        return typeOf(tree).toString().equals("java.lang.String");
    }

    private void isOfRule3(Tree tree, TypeMirror type) {
        TypeMirror inner = type instanceof ArrayType row ? row.getComponentType() : type;
        String name = inner.toString();
        due.isTrue("rule 3: " + name + " of " + tree,
            TYPES.contains(name) || name.startsWith("DewLooms."));
    }

    private static String nameOf(Element element) {
        return element.getEnclosingElement() + "." + element;
    }

    private Element outside() {
        return trees.getElement(getCurrentPath().getParentPath());
    }

    @Override
    public Void visitClass(ClassTree tree, Void none) {
        Element element = trees.getElement(getCurrentPath());
        classes++;
        Set<Modifier> modifiers = element.getModifiers();
        if (element.getSimpleName().contentEquals("DewLooms")) {
            due.isTrue("rule 1: public and final", modifiers.equals(
                Set.of(Modifier.PUBLIC, Modifier.FINAL)));
        } else {
            due.isTrue("rule 2: " + element + " is private, static and final", modifiers.equals(
                Set.of(Modifier.PRIVATE, Modifier.STATIC, Modifier.FINAL)));
        }
        int fields = 0;
        for (Tree member : tree.getMembers()) {
            if (member instanceof VariableTree field
                    && !field.getModifiers().getFlags().contains(Modifier.STATIC)) {
                fields++;
            }
            if (member instanceof BlockTree) {
                never("rule 5: no initialiser block", member);
            }
        }
        due.isTrue("rule 11: " + element + " has " + fields + " fields", fields <= MOST_FIELDS);
        return super.visitClass(tree, none);
    }

    @Override
    public Void visitVariable(VariableTree tree, Void none) {
        Element element = trees.getElement(getCurrentPath());
        isOfRule3(tree, element.asType());
        if (element.getKind().isField()) {
            Set<Modifier> modifiers = element.getModifiers();
            due.isTrue("rule 1: " + element + " is private, or told", modifiers.contains(
                Modifier.PRIVATE) || Set.of("BAD", "NO", "FULL", "NONE").contains(
                element.toString()));
            due.isTrue("rule 5: " + element + " is final if static",
                !modifiers.contains(Modifier.STATIC) || modifiers.contains(Modifier.FINAL)
                && CONSTANTS.contains(element.asType().toString()));
            making = true;
            super.visitVariable(tree, none);
            making = false;
            return null;
        }
        return super.visitVariable(tree, none);
    }

    @Override
    public Void visitMethod(MethodTree tree, Void none) {
        Element element = trees.getElement(getCurrentPath());
        boolean inFace = outside().getSimpleName().contentEquals("DewLooms");
        boolean isPublic = element.getModifiers().contains(Modifier.PUBLIC);
        String name = tree.getName().toString();
        making = name.equals("<init>");
        if (inFace && isPublic && !making) {
            face.add(name);
        } else {
            due.isTrue("rule 1: " + nameOf(element), !FACE.contains(name) && (!inFace || making
                || element.getModifiers().contains(Modifier.PRIVATE)));
        }
        isOfRule3(tree, ((ExecutableElement) element).getReturnType());
        due.isTrue("rule 6: " + element, !OF_ALL_OBJECTS.contains(name));
        due.isTrue("rule 11: parameters of " + element,
            tree.getParameters().size() <= MOST_PARAMETERS);
        long first = unit.getLineMap().getLineNumber(
            trees.getSourcePositions().getStartPosition(unit, tree));
        long last = unit.getLineMap().getLineNumber(
            Math.max(0, trees.getSourcePositions().getEndPosition(unit, tree)));
        due.isTrue("rule 11: lines of " + element, last - first < MOST_LINES);
        caller = nameOf(element);
        calls.computeIfAbsent(caller, key -> new LinkedHashSet<>());
        super.visitMethod(tree, none);
        making = false;
        return null;
    }

    private void called(Element element) {
        String name = nameOf(element);
        calls.computeIfAbsent(caller, key -> new LinkedHashSet<>()).add(name);
        due.isTrue("rule 4: " + name, name.startsWith("DewLooms") || LIBRARY.contains(name));
    }

    @Override
    public Void visitMethodInvocation(MethodInvocationTree tree, Void none) {
        Element element = trees.getElement(getCurrentPath());
        due.isTrue("a call of a method", element instanceof ExecutableElement);
        called(element);
        return super.visitMethodInvocation(tree, none);
    }

    /** The room of a run is kept small: whatever is made is made with the object. */
    @Override
    public Void visitNewClass(NewClassTree tree, Void none) {
        due.isTrue("objects are made in constructors alone: " + tree, making);
        due.isTrue("rule 2: no anonymous class", tree.getClassBody() == null);
        called(trees.getElement(getCurrentPath()));
        return super.visitNewClass(tree, none);
    }

    @Override
    public Void visitNewArray(NewArrayTree tree, Void none) {
        due.isTrue("rows are made in constructors alone: " + tree, making);
        return super.visitNewArray(tree, none);
    }

    @Override
    public Void visitImport(ImportTree tree, Void none) {
        never("rule 4: nothing imported is wanted here", tree);
        return super.visitImport(tree, none);
    }

    @Override
    public Void visitThrow(ThrowTree tree, Void none) {
        never("rule 6: throw", tree);
        return super.visitThrow(tree, none);
    }

    @Override
    public Void visitTry(TryTree tree, Void none) {
        never("rule 6: try", tree);
        return super.visitTry(tree, none);
    }

    @Override
    public Void visitSynchronized(SynchronizedTree tree, Void none) {
        never("rule 6: synchronized", tree);
        return super.visitSynchronized(tree, none);
    }

    @Override
    public Void visitAssert(AssertTree tree, Void none) {
        never("rule 6: assert", tree);
        return super.visitAssert(tree, none);
    }

    @Override
    public Void visitInstanceOf(InstanceOfTree tree, Void none) {
        never("no instanceof is wanted here", tree);
        return super.visitInstanceOf(tree, none);
    }

    @Override
    public Void visitLambdaExpression(LambdaExpressionTree tree, Void none) {
        never("rule 2: lambda", tree);
        return super.visitLambdaExpression(tree, none);
    }

    @Override
    public Void visitMemberReference(MemberReferenceTree tree, Void none) {
        never("rule 2: method reference", tree);
        return super.visitMemberReference(tree, none);
    }

    @Override
    public Void visitLiteral(LiteralTree tree, Void none) {
        due.isTrue("no null is wanted here", tree.getValue() != null);
        if (tree.getValue() instanceof String text) {
            due.isTrue("rule 4: signs of " + tree, text.chars().allMatch(c -> c >= 1 && c <= 127));
        }
        return super.visitLiteral(tree, none);
    }

    @Override
    public Void visitBinary(BinaryTree tree, Void none) {
        due.isTrue("rules 6 and 10: no two texts joined, or compared by ==: " + tree,
            !isText(tree.getLeftOperand()) && !isText(tree.getRightOperand()));
        return super.visitBinary(tree, none);
    }

    @Override
    public Void visitCompoundAssignment(CompoundAssignmentTree tree, Void none) {
        due.isTrue("rule 10: no text is joined: " + tree, !isText(tree.getVariable()));
        return super.visitCompoundAssignment(tree, none);
    }

    @Override
    public Void visitTypeCast(TypeCastTree tree, Void none) {
        due.isTrue("no casts but of numbers are wanted here: " + tree,
            typeOf(tree.getType()).getKind().isPrimitive());
        return super.visitTypeCast(tree, none);
    }

    /** Whether the bound is one that is reached cannot be looked up. */
    @Override
    public Void visitForLoop(ForLoopTree tree, Void none) {
        due.isTrue("rule 9: a loop has a bound and a counter: " + tree,
            tree.getCondition() != null && tree.getInitializer().size() == 1
            && tree.getUpdate().size() == 1);
        return super.visitForLoop(tree, none);
    }

    @Override
    public Void visitEnhancedForLoop(EnhancedForLoopTree tree, Void none) {
        never("rule 12: loops by index alone are wanted here", tree);
        return super.visitEnhancedForLoop(tree, none);
    }

    @Override
    public Void visitWhileLoop(WhileLoopTree tree, Void none) {
        never("rule 9: loops with a counter alone are wanted here", tree);
        return super.visitWhileLoop(tree, none);
    }

    @Override
    public Void visitDoWhileLoop(DoWhileLoopTree tree, Void none) {
        never("rule 9: loops with a counter alone are wanted here", tree);
        return super.visitDoWhileLoop(tree, none);
    }
}
