import com.sun.source.tree.AnnotatedTypeTree;
import com.sun.source.tree.AnnotationTree;
import com.sun.source.tree.AssertTree;
import com.sun.source.tree.BinaryTree;
import com.sun.source.tree.BlockTree;
import com.sun.source.tree.CatchTree;
import com.sun.source.tree.ClassTree;
import com.sun.source.tree.CompilationUnitTree;
import com.sun.source.tree.CompoundAssignmentTree;
import com.sun.source.tree.EnhancedForLoopTree;
import com.sun.source.tree.ForLoopTree;
import com.sun.source.tree.IdentifierTree;
import com.sun.source.tree.ImportTree;
import com.sun.source.tree.LambdaExpressionTree;
import com.sun.source.tree.LiteralTree;
import com.sun.source.tree.MemberReferenceTree;
import com.sun.source.tree.MemberSelectTree;
import com.sun.source.tree.MethodInvocationTree;
import com.sun.source.tree.MethodTree;
import com.sun.source.tree.NewClassTree;
import com.sun.source.tree.SynchronizedTree;
import com.sun.source.tree.ThrowTree;
import com.sun.source.tree.Tree;
import com.sun.source.tree.TryTree;
import com.sun.source.tree.VariableTree;
import com.sun.source.tree.WhileLoopTree;
import com.sun.source.util.JavacTask;
import com.sun.source.util.SourcePositions;
import com.sun.source.util.TreePath;
import com.sun.source.util.TreePathScanner;
import com.sun.source.util.Trees;
import java.nio.file.Path;
import java.util.ArrayDeque;
import java.util.Deque;
import java.util.List;
import java.util.Map;
import java.util.Set;
import java.util.TreeMap;
import java.util.TreeSet;
import javax.lang.model.element.Element;
import javax.lang.model.element.ElementKind;
import javax.lang.model.element.ExecutableElement;
import javax.lang.model.element.Modifier;
import javax.lang.model.element.TypeElement;
import javax.lang.model.type.TypeKind;
import javax.lang.model.type.TypeMirror;
import javax.tools.JavaCompiler;
import javax.tools.StandardJavaFileManager;
import javax.tools.ToolProvider;

/** The class keeps to LANGUAGE.md: what of its rules can be told from the tree that javac makes of the text. */
public final class LanguageTest extends TreePathScanner<Void, Void> {
    private static final int MOST_PARAMETERS = 7;
    private static final int MOST_LINES = 60;
    private static final int MOST_DEEP = 8;
    private static final int MOST_OPEN = 300;
    private static final int MOST_CLASSES = 12;
    private static final int MOST_FIELDS = 20;
    // ( and - that may be open at once, so that a method of the reader comes once more than that.
    private static final int LEVELS = 9;
    /** Rule 4, without lists: the class has none. */
    private static final Set<String> LIBRARY = Set.of("String.length", "String.charAt", "String.isEmpty", "String.equals",
        "String.indexOf", "String.substring", "String.toCharArray", "StringBuilder.append", "StringBuilder.charAt",
        "StringBuilder.setCharAt", "StringBuilder.setLength", "StringBuilder.deleteCharAt", "StringBuilder.reverse",
        "StringBuilder.length", "StringBuilder.toString", "Integer.compare", "Integer.bitCount", "Long.compare",
        "Long.bitCount", "Math.max", "Math.min", "Math.abs", "Math.floorDiv", "Math.floorMod", "System.arraycopy",
        "Arrays.copyOf", "Arrays.copyOfRange", "Arrays.fill", "Array.clone", "Object.<init>", "String.<init>",
        "StringBuilder.<init>");
    private static final Set<String> LIBRARY_TYPES = Set.of("String", "StringBuilder", "Integer", "Long", "Math",
        "System", "Arrays", "Object");

    private final Trees trees;
    private final CompilationUnitTree unit;
    private final Map<String, Set<String>> calls = new TreeMap<>();
    private final Deque<String> methods = new ArrayDeque<>();
    private int classes = 0;
    private int wrong = 0;

    private LanguageTest(Trees trees, CompilationUnitTree unit) {
        this.trees = trees;
        this.unit = unit;
    }

    public static void main(String[] args) throws Exception {
        Path source = Path.of(System.getProperty("project.root", "."), "src/main/java/CareRules.java");
        JavaCompiler compiler = ToolProvider.getSystemJavaCompiler();
        try (StandardJavaFileManager files = compiler.getStandardFileManager(null, null, null)) {
            JavacTask task = (JavacTask) compiler.getTask(null, files, null, List.of("-proc:none"), null,
                files.getJavaFileObjects(source));
            CompilationUnitTree unit = task.parse().iterator().next();
            task.analyze();
            LanguageTest test = new LanguageTest(Trees.instance(task), unit);
            test.scan(unit, null);
            test.checkCalls();
            System.out.println(test.calls.size() + " methods, " + test.wrong + " faults of the language");
            if (test.wrong != 0 || test.calls.isEmpty()) {
                System.exit(1);
            }
        }
    }

    private void fault(int rule, String what) {
        wrong++;
        TreePath path = getCurrentPath();
        SourcePositions places = trees.getSourcePositions();
        String line = path == null ? "" : " in line "
            + unit.getLineMap().getLineNumber(places.getStartPosition(unit, path.getLeaf()));
        System.out.println("rule " + rule + line + ": " + what);
    }

    // ---- rules 1, 2, 5, 11: classes, fields, methods

    @Override
    public Void visitClass(ClassTree tree, Void none) {
        classes++;
        Element element = trees.getElement(getCurrentPath());
        if (element.getKind() != ElementKind.CLASS && element.getKind() != ElementKind.ENUM
            && element.getKind() != ElementKind.INTERFACE && element.getKind() != ElementKind.RECORD) {
            fault(2, "a class of no kind that may be: " + tree.getSimpleName());
        }
        boolean outer = element.getEnclosingElement().getKind() == ElementKind.PACKAGE;
        Set<Modifier> modifiers = tree.getModifiers().getFlags();
        if (outer && (!modifiers.contains(Modifier.PUBLIC) || !modifiers.contains(Modifier.FINAL))) {
            fault(1, "not public and final: " + tree.getSimpleName());
        }
        if (!outer && (!modifiers.contains(Modifier.STATIC) || modifiers.contains(Modifier.PUBLIC)
            || modifiers.contains(Modifier.PROTECTED))) {
            fault(2, "not static, or to be seen from outside: " + tree.getSimpleName());
        }
        long fields = element.getEnclosedElements().stream()
            .filter(e -> e.getKind() == ElementKind.FIELD && !e.getModifiers().contains(Modifier.STATIC)).count();
        if (fields > MOST_FIELDS) {
            fault(11, tree.getSimpleName() + " has " + fields + " fields");
        }
        if (classes > MOST_CLASSES) {
            fault(11, "more than twelve classes");
        }
        return super.visitClass(tree, none);
    }

    @Override
    public Void visitMethod(MethodTree tree, Void none) {
        ExecutableElement element = (ExecutableElement) trees.getElement(getCurrentPath());
        if (tree.getParameters().size() > MOST_PARAMETERS) {
            fault(11, "more than seven parameters: " + tree.getName());
        }
        SourcePositions places = trees.getSourcePositions();
        long lines = unit.getLineMap().getLineNumber(places.getEndPosition(unit, tree))
            - unit.getLineMap().getLineNumber(places.getStartPosition(unit, tree)) + 1;
        if (lines > MOST_LINES) {
            fault(11, tree.getName() + " has " + lines + " lines");
        }
        if (!tree.getThrows().isEmpty()) {
            fault(6, "throws: " + tree.getName());
        }
        String name = nameOf(element);
        if (calls.put(name, new TreeSet<>()) != null) {
            fault(1, "two methods of one name, so that calls can't be counted: " + name);
        }
        methods.push(name);
        super.visitMethod(tree, none);
        methods.pop();
        return null;
    }

    @Override
    public Void visitVariable(VariableTree tree, Void none) {
        Element element = trees.getElement(getCurrentPath());
        checkType(element.asType(), tree.getName().toString());
        if (element.getKind() == ElementKind.FIELD && element.getModifiers().contains(Modifier.STATIC)) {
            if (!element.getModifiers().contains(Modifier.FINAL)) {
                fault(5, "static state: " + tree.getName());
            }
            String type = element.asType().toString();
            if (!type.matches("(int|long|boolean|char|java\\.lang\\.String|(int|long|char|byte)\\[\\])")) {
                fault(5, "a static field of " + type);
            }
        }
        return super.visitVariable(tree, none);
    }

    /** Rule 3, without generic classes: the class has none. */
    private void checkType(TypeMirror type, String name) {
        String text = type.toString().replace("CareRules.", "");
        if (!text.matches("(int|long|short|byte|char|boolean)(\\[\\]){0,2}|[A-Z]\\w*(\\[\\])?"
            + "|java\\.lang\\.(String|StringBuilder)")) {
            fault(3, name + " is of type " + text);
        }
    }

    @Override
    public Void visitBlock(BlockTree tree, Void none) {
        if (tree.isStatic()) {
            fault(5, "a static block");
        }
        return super.visitBlock(tree, none);
    }

    // ---- rule 4: the library

    @Override
    public Void visitImport(ImportTree tree, Void none) {
        if (!tree.getQualifiedIdentifier().toString().equals("java.util.Arrays")) {
            fault(4, "imports " + tree.getQualifiedIdentifier());
        }
        return null;
    }

    @Override
    public Void visitMethodInvocation(MethodInvocationTree tree, Void none) {
        enterCall(trees.getElement(getCurrentPath()));
        return super.visitMethodInvocation(tree, none);
    }

    @Override
    public Void visitNewClass(NewClassTree tree, Void none) {
        if (tree.getClassBody() != null) {
            fault(2, "a class without a name");
        }
        enterCall(trees.getElement(getCurrentPath()));
        return super.visitNewClass(tree, none);
    }

    private void enterCall(Element called) {
        String name = nameOf(called);
        if (isOfLibrary(called) && !LIBRARY.contains(name)) {
            fault(4, "calls " + name);
        }
        // What a field is set to ahead of the constructors is made by them.
        String caller = methods.isEmpty() ? "fields" : methods.peek();
        calls.computeIfAbsent(caller, c -> new TreeSet<>()).add(name);
    }

    @Override
    public Void visitMemberSelect(MemberSelectTree tree, Void none) {
        Element element = trees.getElement(getCurrentPath());
        boolean lengthOfArray = tree.getIdentifier().contentEquals("length");
        if (element != null && element.getKind() == ElementKind.FIELD && isOfLibrary(element) && !lengthOfArray) {
            fault(4, "uses " + tree);
        }
        return super.visitMemberSelect(tree, none);
    }

    @Override
    public Void visitIdentifier(IdentifierTree tree, Void none) {
        Element element = trees.getElement(getCurrentPath());
        if (element instanceof TypeElement && isOfLibrary(element)
            && !LIBRARY_TYPES.contains(element.getSimpleName().toString())) {
            fault(4, "uses " + tree);
        }
        return super.visitIdentifier(tree, none);
    }

    private static boolean isOfLibrary(Element element) {
        Element owner = element;
        while (owner.getEnclosingElement() != null && owner.getEnclosingElement().getKind() != ElementKind.PACKAGE) {
            owner = owner.getEnclosingElement();
        }
        return !owner.getSimpleName().contentEquals("CareRules");
    }

    private static String nameOf(Element method) {
        return method.getEnclosingElement().getSimpleName() + "." + method.getSimpleName();
    }

    // ---- rules 2, 6, 10: what may not stand in the text

    @Override
    public Void visitLambdaExpression(LambdaExpressionTree tree, Void none) {
        fault(2, "a lambda");
        return null;
    }

    @Override
    public Void visitMemberReference(MemberReferenceTree tree, Void none) {
        fault(2, "a method reference");
        return null;
    }

    @Override
    public Void visitThrow(ThrowTree tree, Void none) {
        fault(6, "throw");
        return null;
    }

    @Override
    public Void visitTry(TryTree tree, Void none) {
        fault(6, "try");
        return null;
    }

    @Override
    public Void visitCatch(CatchTree tree, Void none) {
        fault(6, "catch");
        return null;
    }

    @Override
    public Void visitSynchronized(SynchronizedTree tree, Void none) {
        fault(6, "synchronized");
        return null;
    }

    @Override
    public Void visitAssert(AssertTree tree, Void none) {
        fault(6, "assert");
        return null;
    }

    @Override
    public Void visitAnnotation(AnnotationTree tree, Void none) {
        fault(4, "an annotation");
        return null;
    }

    @Override
    public Void visitAnnotatedType(AnnotatedTypeTree tree, Void none) {
        fault(4, "an annotation");
        return null;
    }

    @Override
    public Void visitLiteral(LiteralTree tree, Void none) {
        if (tree.getValue() instanceof String text && !text.matches("[\\x01-\\x7f]*")) {
            fault(4, "a text with other signs than 1 to 127");
        }
        return null;
    }

    @Override
    public Void visitBinary(BinaryTree tree, Void none) {
        TypeMirror left = typeOf(tree.getLeftOperand());
        TypeMirror right = typeOf(tree.getRightOperand());
        boolean texts = isText(left) || isText(right);
        if (texts && (tree.getKind() == Tree.Kind.EQUAL_TO || tree.getKind() == Tree.Kind.NOT_EQUAL_TO)) {
            fault(6, "texts are compared by == or !=");
        }
        if (texts && tree.getKind() == Tree.Kind.PLUS) {
            fault(10, "texts are joined by +");
        }
        boolean divides = tree.getKind() == Tree.Kind.DIVIDE || tree.getKind() == Tree.Kind.REMAINDER;
        if (divides && !(tree.getRightOperand() instanceof LiteralTree) && !isConstant(tree.getRightOperand())) {
            dividesByAnother(tree);
        }
        return super.visitBinary(tree, none);
    }

    /** Rule 7: these divisors were looked at by a reader's eye; a new one asks for the same. */
    private void dividesByAnother(BinaryTree tree) {
        String divisor = tree.getRightOperand().toString();
        if (!divisor.equals("right") && !divisor.equals("together")) {
            fault(7, "divides by " + divisor + ": is it looked at before?");
        }
    }

    @Override
    public Void visitCompoundAssignment(CompoundAssignmentTree tree, Void none) {
        if (isText(typeOf(tree.getVariable()))) {
            fault(10, "texts are joined by +=");
        }
        if (tree.getKind() == Tree.Kind.DIVIDE_ASSIGNMENT || tree.getKind() == Tree.Kind.REMAINDER_ASSIGNMENT) {
            fault(7, "divides: is the divisor looked at before?");
        }
        return super.visitCompoundAssignment(tree, none);
    }

    private boolean isConstant(Tree tree) {
        Element element = trees.getElement(new TreePath(getCurrentPath(), tree));
        return element != null && element.getModifiers().contains(Modifier.STATIC)
            && element.getModifiers().contains(Modifier.FINAL);
    }

    private TypeMirror typeOf(Tree tree) {
        return trees.getTypeMirror(new TreePath(getCurrentPath(), tree));
    }

    private static boolean isText(TypeMirror type) {
        return type != null && type.getKind() == TypeKind.DECLARED && type.toString().equals("java.lang.String");
    }

    // ---- rule 9: loops

    @Override
    public Void visitForLoop(ForLoopTree tree, Void none) {
        if (tree.getCondition() == null) {
            fault(9, "a loop without a bound");
        }
        return super.visitForLoop(tree, none);
    }

    @Override
    public Void visitWhileLoop(WhileLoopTree tree, Void none) {
        if (!tree.getCondition().toString().contains("<")) {
            fault(9, "a loop without a bound");
        }
        return super.visitWhileLoop(tree, none);
    }

    @Override
    public Void visitEnhancedForLoop(EnhancedForLoopTree tree, Void none) {
        if (typeOf(tree.getExpression()).getKind() != TypeKind.ARRAY) {
            fault(12, "a loop over a list makes an iterator");
        }
        return super.visitEnhancedForLoop(tree, none);
    }

    // ---- rules 8, 11: how deep calls go

    private void checkCalls() {
        Map<String, Set<String>> reached = new TreeMap<>();
        for (String method : calls.keySet()) {
            Set<String> all = new TreeSet<>();
            reach(method, all);
            reached.put(method, all);
        }
        for (String method : calls.keySet()) {
            List<String> chain = longest(method, reached);
            if (deepOf(chain, reached, 1) > MOST_DEEP) {
                fault(11, "calls go too deep: " + chain);
            }
            if (deepOf(chain, reached, LEVELS) > MOST_OPEN) {
                fault(8, "too many calls stand open: " + chain);
            }
            if (reached.get(method).contains(method) && !method.startsWith("TextReader.take")) {
                fault(8, "calls itself: " + method);
            }
        }
    }

    private void reach(String method, Set<String> reached) {
        for (String called : calls.getOrDefault(method, Set.of())) {
            if (reached.add(called)) {
                reach(called, reached);
            }
        }
    }

    /** The longest chain of calls from a method on; of methods that call one another each comes once at most. */
    private List<String> longest(String method, Map<String, Set<String>> reached) {
        return longest(method, reached, new ArrayDeque<>());
    }

    private List<String> longest(String method, Map<String, Set<String>> reached, Deque<String> open) {
        open.addLast(method);
        List<String> found = List.copyOf(open);
        for (String called : calls.getOrDefault(method, Set.of())) {
            if (!open.contains(called)) {
                List<String> chain = longest(called, reached, open);
                found = deepOf(chain, reached, 1) > deepOf(found, reached, 1) ? chain : found;
            }
        }
        open.removeLast();
        return found;
    }

    /** How deep a chain is, if each of the methods in it that call themselves comes that often. */
    private static int deepOf(List<String> chain, Map<String, Set<String>> reached, int often) {
        int deep = 0;
        for (String method : chain) {
            deep += reached.getOrDefault(method, Set.of()).contains(method) ? often : 1;
        }
        return deep;
    }
}
