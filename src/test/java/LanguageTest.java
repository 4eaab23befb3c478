import com.sun.source.tree.*;
import com.sun.source.util.JavacTask;
import com.sun.source.util.SourcePositions;
import com.sun.source.util.TreePathScanner;
import com.sun.source.util.Trees;
import java.io.IOException;
import java.nio.file.Path;
import java.util.HashMap;
import java.util.HashSet;
import java.util.List;
import java.util.Map;
import java.util.Set;
import java.util.TreeSet;
import javax.lang.model.element.Element;
import javax.lang.model.element.ElementKind;
import javax.lang.model.element.ExecutableElement;
import javax.lang.model.element.Modifier;
import javax.lang.model.type.TypeKind;
import javax.lang.model.type.TypeMirror;
import javax.tools.JavaCompiler;
import javax.tools.StandardJavaFileManager;
import javax.tools.ToolProvider;

/** The rules of ../shared/LANGUAGE.md, as far as the compiler's own tree of the class shows them (1 is in FaceTest). */
public final class LanguageTest extends TreePathScanner<Void, Void> {
    private static final Path SOURCE = Path.of("src/main/java/Towerliftry.java");

    private static final Set<String> IMPORTS = Set.of(
        "java.util.ArrayList", "java.util.List", "java.util.Arrays", "java.util.NoSuchElementException");

    /** Rule 3. */
    private static final Set<String> TYPES = Set.of("int", "long", "short", "byte", "char", "boolean", "double",
        "float", "int[]", "long[]", "char[]", "byte[]", "boolean[]", "java.lang.String", "java.lang.StringBuilder");

    /** Rule 4, of which the class needs these. */
    private static final Set<String> LIBRARY = Set.of(
        "java.util.ArrayList.ArrayList", "java.util.ArrayList.add", "java.util.ArrayList.get",
        "java.util.ArrayList.size", "java.util.ArrayList.isEmpty", "java.util.Arrays.copyOf", "java.lang.Integer.bitCount",
        "java.lang.Math.abs", "java.lang.Math.max", "java.lang.Math.min", "java.lang.Object.Object");

    /** Rule 6. */
    private static final Set<String> EXCEPTIONS = Set.of("IllegalStateException", "IllegalArgumentException",
        "IndexOutOfBoundsException", "ArithmeticException", "UnsupportedOperationException",
        "NoSuchElementException", "RuntimeException");

    /** What no rule allows, or what the class does without. */
    private static final Set<Tree.Kind> NEVER = Set.of(
        Tree.Kind.LAMBDA_EXPRESSION, Tree.Kind.MEMBER_REFERENCE, Tree.Kind.TRY, Tree.Kind.CATCH,
        Tree.Kind.SYNCHRONIZED, Tree.Kind.ASSERT, Tree.Kind.WHILE_LOOP, Tree.Kind.DO_WHILE_LOOP,
        Tree.Kind.ENHANCED_FOR_LOOP, Tree.Kind.INSTANCE_OF, Tree.Kind.ANNOTATION, Tree.Kind.ERRONEOUS);

    private final Trees trees;
    private final CompilationUnitTree unit;
    private final Map<String, Set<String>> calls = new HashMap<>();
    private final Map<String, Integer> depths = new HashMap<>();
    private String method = "";
    private boolean isInConstructor = false;
    private int loops = 0;
    private int classes = 0;

    private LanguageTest(Trees trees, CompilationUnitTree unit) {
        this.trees = trees;
        this.unit = unit;
    }

    public static void main(String[] args) throws IOException {
        JavaCompiler compiler = ToolProvider.getSystemJavaCompiler();
        StandardJavaFileManager files = compiler.getStandardFileManager(null, null, null);
        JavacTask task = (JavacTask) compiler.getTask(null, files, null, List.of("-proc:none"), null,
            files.getJavaFileObjects(SOURCE));
        CompilationUnitTree unit = task.parse().iterator().next();
        task.analyze();
        LanguageTest test = new LanguageTest(Trees.instance(task), unit);
        test.scan(unit, null);
        Expect.same("11: at most twelve classes", test.classes <= 12, true);
        test.depthsAreLow();
        Expect.end();
    }

    private void holds(String rule, Tree tree, boolean is) {
        long line = unit.getLineMap().getLineNumber(trees.getSourcePositions().getStartPosition(unit, tree));
        Expect.same("line " + line + ", rule " + rule, is, true);
    }

    @Override
    public Void scan(Tree tree, Void nothing) {
        if (tree != null) {
            holds("2, 6 and 9: no " + tree.getKind(), tree, !NEVER.contains(tree.getKind()));
        }
        return super.scan(tree, nothing);
    }

    @Override
    public Void visitCompilationUnit(CompilationUnitTree tree, Void nothing) {
        holds("1: no package", tree, tree.getPackage() == null);
        holds("1: one class in the file", tree, tree.getTypeDecls().size() == 1);
        for (ImportTree each : tree.getImports()) {
            holds("4: imports", each, IMPORTS.contains(each.getQualifiedIdentifier().toString()) && !each.isStatic());
        }
        for (Tree each : tree.getTypeDecls()) {
            scan(each, nothing);
        }
        return null;
    }

    @Override
    public Void visitClass(ClassTree tree, Void nothing) {
        classes++;
        int fields = 0;
        for (Tree each : tree.getMembers()) {
            holds("5: no block outside of methods", each, each.getKind() != Tree.Kind.BLOCK);
            if (each instanceof VariableTree) {
                fields += isStatic((VariableTree) each) ? 0 : 1;
            }
        }
        holds("11: some twenty fields", tree, fields <= 20);
        return super.visitClass(tree, nothing);
    }

    private static boolean isStatic(VariableTree field) {
        return field.getModifiers().getFlags().contains(Modifier.STATIC);
    }

    @Override
    public Void visitVariable(VariableTree tree, Void nothing) {
        TypeMirror type = trees.getTypeMirror(getCurrentPath());
        boolean isOwn = type.toString().startsWith("Towerliftry");
        boolean isList = type.toString().startsWith("java.util.ArrayList<Towerliftry.");
        holds("3: the type " + type, tree, isOwn || isList || TYPES.contains(type.toString()));
        if (isStatic(tree)) {
            holds("5: a static field is final", tree, tree.getModifiers().getFlags().contains(Modifier.FINAL));
            holds("5: and a constant", tree, type.getKind().isPrimitive() && tree.getInitializer() != null);
        }
        return super.visitVariable(tree, nothing);
    }

    @Override
    public Void visitMethod(MethodTree tree, Void nothing) {
        method = nameOf(trees.getElement(getCurrentPath()));
        isInConstructor = tree.getReturnType() == null;
        calls.putIfAbsent(method, new TreeSet<>());
        holds("11: at most seven parameters", tree, tree.getParameters().size() <= 7);
        holds("11: some sixty lines", tree, linesOf(tree) <= 60);
        super.visitMethod(tree, nothing);
        method = "";
        isInConstructor = false;
        return null;
    }

    private long linesOf(Tree tree) {
        SourcePositions positions = trees.getSourcePositions();
        long from = positions.getStartPosition(unit, tree);
        long to = positions.getEndPosition(unit, tree);
        return to < 0 ? 0 : unit.getLineMap().getLineNumber(to) - unit.getLineMap().getLineNumber(from) + 1;
    }

    private static String nameOf(Element element) {
        return element.getEnclosingElement() + "." + element;
    }

    @Override
    public Void visitMethodInvocation(MethodInvocationTree tree, Void nothing) {
        called(tree, trees.getElement(getCurrentPath()));
        return super.visitMethodInvocation(tree, nothing);
    }

    private void called(Tree tree, Element element) {
        String owner = element.getEnclosingElement().toString();
        if (owner.startsWith("Towerliftry")) {
            calls.computeIfAbsent(method, each -> new TreeSet<>()).add(nameOf(element));
        } else {
            boolean isMade = element.getKind() == ElementKind.CONSTRUCTOR;
            String name = isMade ? owner.substring(owner.lastIndexOf('.') + 1) : element.getSimpleName().toString();
            holds("4: " + owner + "." + name, tree, LIBRARY.contains(owner + "." + name));
        }
        if (isInConstructor && element instanceof ExecutableElement) {
            Set<Modifier> modifiers = element.getModifiers();
            boolean isFixed = element.getKind() == ElementKind.CONSTRUCTOR || modifiers.contains(Modifier.STATIC);
            holds("12: a constructor calls no method of the object", tree, isFixed);
        }
    }

    @Override
    public Void visitThrow(ThrowTree tree, Void nothing) {
        holds("6: no throw in a constructor", tree, !isInConstructor);
        holds("6: throw new", tree, tree.getExpression() instanceof NewClassTree);
        if (!(tree.getExpression() instanceof NewClassTree)) {
            return null;
        }
        NewClassTree made = (NewClassTree) tree.getExpression();
        holds("6: one of the exceptions", tree, EXCEPTIONS.contains(made.getIdentifier().toString()));
        for (ExpressionTree each : made.getArguments()) {
            holds("6: a written text", tree, each.getKind() == Tree.Kind.STRING_LITERAL);
        }
        return null;
    }

    @Override
    public Void visitNewClass(NewClassTree tree, Void nothing) {
        holds("2: no anonymous class", tree, tree.getClassBody() == null);
        holds("12: none in a loop", tree, loops == 0);
        called(tree, trees.getElement(getCurrentPath()));
        return super.visitNewClass(tree, nothing);
    }

    @Override
    public Void visitNewArray(NewArrayTree tree, Void nothing) {
        holds("12: none in a loop", tree, loops == 0);
        return super.visitNewArray(tree, nothing);
    }

    /** Rule 9: one counter that goes one up, against a bound, and that nothing in the loop sets back. */
    @Override
    public Void visitForLoop(ForLoopTree tree, Void nothing) {
        String condition = String.valueOf(tree.getCondition());
        String update = tree.getUpdate().toString();
        boolean isOneUp = tree.getUpdate().size() == 1 && update.matches("\\w+\\+\\+;?");
        holds("9: a counter one up", tree, isOneUp);
        if (isOneUp) {
            String counter = update.substring(0, update.indexOf('+'));
            holds("9: against a bound", tree, condition.matches("\\(?" + counter + " <=? .*"));
            String body = tree.getStatement().toString();
            holds("9: nothing sets it", tree, !body.matches("(?s).*\\b" + counter + "( [-+*/]?= |\\+\\+|--).*"));
        }
        loops++;
        super.visitForLoop(tree, nothing);
        loops--;
        return null;
    }

    @Override
    public Void visitBinary(BinaryTree tree, Void nothing) {
        boolean isText = isText(tree.getLeftOperand()) || isText(tree.getRightOperand());
        holds("6 and 10: no operator on texts", tree, !isText);
        if (tree.getKind() == Tree.Kind.DIVIDE || tree.getKind() == Tree.Kind.REMAINDER) {
            dividesBySomething(tree);
        }
        return super.visitBinary(tree, nothing);
    }

    /** Rule 7: by a constant, by what has been tested, or in numbers that are no int. */
    private void dividesBySomething(BinaryTree tree) {
        String divisor = tree.getRightOperand().toString();
        boolean isConstant = divisor.matches("[1-9]\\d*") || divisor.equals("SLOW_BEAT");
        boolean isTested = divisor.equals("floors") || divisor.equals("(float)all") || divisor.equals("(double)all");
        holds("7: divides by " + divisor, tree, isConstant || isTested);
    }

    private boolean isText(Tree tree) {
        TypeMirror type = trees.getTypeMirror(trees.getPath(unit, tree));
        return type != null && type.getKind() == TypeKind.DECLARED && type.toString().startsWith("java.lang.");
    }

    /** Rules 8 and 11: no recursion, and calls at most eight deep. */
    private void depthsAreLow() {
        for (String each : calls.keySet()) {
            int depth = depthOf(each, new HashSet<>());
            Expect.same("11: " + each + " goes " + depth + " deep", depth <= 8, true);
        }
        Expect.same("all methods were seen", calls.size() > 60, true);
    }

    private int depthOf(String name, Set<String> open) {
        if (depths.containsKey(name)) {
            return depths.get(name);
        }
        if (!open.add(name)) {
            Expect.note("8: " + name + " calls itself");
            return 1;
        }
        int deepest = 0;
        for (String each : calls.getOrDefault(name, Set.of())) {
            deepest = Math.max(deepest, depthOf(each, open));
        }
        open.remove(name);
        depths.put(name, deepest + 1);
        return deepest + 1;
    }
}
