import com.sun.source.tree.BinaryTree;
import com.sun.source.tree.ClassTree;
import com.sun.source.tree.CompilationUnitTree;
import com.sun.source.tree.ExpressionStatementTree;
import com.sun.source.tree.ExpressionTree;
import com.sun.source.tree.ForLoopTree;
import com.sun.source.tree.IdentifierTree;
import com.sun.source.tree.ImportTree;
import com.sun.source.tree.LiteralTree;
import com.sun.source.tree.MethodInvocationTree;
import com.sun.source.tree.MethodTree;
import com.sun.source.tree.NewArrayTree;
import com.sun.source.tree.NewClassTree;
import com.sun.source.tree.StatementTree;
import com.sun.source.tree.ThrowTree;
import com.sun.source.tree.Tree;
import com.sun.source.tree.Tree.Kind;
import com.sun.source.tree.TypeCastTree;
import com.sun.source.tree.UnaryTree;
import com.sun.source.tree.VariableTree;
import com.sun.source.util.JavacTask;
import com.sun.source.util.TreePath;
import com.sun.source.util.TreePathScanner;
import com.sun.source.util.Trees;
import java.io.IOException;
import java.nio.file.Files;
import java.nio.file.Path;
import java.util.EnumSet;
import java.util.HashSet;
import java.util.LinkedHashMap;
import java.util.List;
import java.util.Map;
import java.util.Set;
import java.util.TreeSet;
import javax.lang.model.element.Element;
import javax.lang.model.element.ElementKind;
import javax.lang.model.element.ExecutableElement;
import javax.lang.model.element.Modifier;
import javax.lang.model.element.VariableElement;
import javax.lang.model.type.TypeMirror;
import javax.tools.JavaCompiler;
import javax.tools.StandardJavaFileManager;
import javax.tools.ToolProvider;

/**
 * The rules of LANGUAGE.md that the program's text shows; it runs in the project's folder. What is let pass is less
 * than the rules leave: only what the program needs so far. Who needs more reads the rule first, and then lets it pass.
 */
public final class LanguageTest extends TreePathScanner<Void, Void> {
    private static final Path PROGRAM = Path.of("src/main/java/PeggedBells.java");
    private static final Set<Kind> KINDS = EnumSet.of(
            Kind.COMPILATION_UNIT, Kind.IMPORT, Kind.CLASS, Kind.METHOD, Kind.VARIABLE, Kind.MODIFIERS,
            Kind.PRIMITIVE_TYPE, Kind.ARRAY_TYPE, Kind.IDENTIFIER, Kind.MEMBER_SELECT, Kind.ARRAY_ACCESS,
            Kind.INT_LITERAL, Kind.CHAR_LITERAL, Kind.STRING_LITERAL, Kind.NULL_LITERAL,
            Kind.BLOCK, Kind.EXPRESSION_STATEMENT, Kind.RETURN, Kind.THROW, Kind.IF, Kind.FOR_LOOP,
            Kind.SWITCH, Kind.CASE, Kind.METHOD_INVOCATION, Kind.NEW_CLASS, Kind.NEW_ARRAY, Kind.TYPE_CAST,
            Kind.PARENTHESIZED, Kind.CONDITIONAL_EXPRESSION, Kind.CONDITIONAL_AND, Kind.CONDITIONAL_OR,
            Kind.LOGICAL_COMPLEMENT,
            Kind.ASSIGNMENT, Kind.PLUS_ASSIGNMENT, Kind.OR_ASSIGNMENT, Kind.XOR_ASSIGNMENT,
            Kind.POSTFIX_INCREMENT, Kind.POSTFIX_DECREMENT, Kind.UNARY_MINUS, Kind.BITWISE_COMPLEMENT,
            Kind.PLUS, Kind.MINUS, Kind.MULTIPLY, Kind.DIVIDE, Kind.REMAINDER,
            Kind.AND, Kind.XOR, Kind.LEFT_SHIFT, Kind.RIGHT_SHIFT, Kind.UNSIGNED_RIGHT_SHIFT,
            Kind.EQUAL_TO, Kind.NOT_EQUAL_TO, Kind.LESS_THAN, Kind.LESS_THAN_EQUAL, Kind.GREATER_THAN,
            Kind.GREATER_THAN_EQUAL);
    private static final Set<String> TYPES = Set.of("int", "long", "char", "boolean", "int[]", "char[]");
    private static final Set<String> CONSTANT_TYPES = Set.of("int", "long", "char", "boolean");
    private static final Set<String> LIBRARY = Set.of(
            "java.util.Arrays.fill(int[],int)", "java.lang.Integer.bitCount(int)",
            "java.lang.Math.min(int,int)", "java.lang.Math.max(int,int)",
            "java.lang.System.arraycopy(java.lang.Object,int,java.lang.Object,int,int)");
    private static final Set<String> EXCEPTIONS = Set.of(
            "IllegalStateException", "IllegalArgumentException", "IndexOutOfBoundsException");
    /** The only method that makes an object: the first time in each slot. */
    private static final String MAKER = "save";
    private static final int MOST_PARAMETERS = 7;
    private static final int MOST_LINES = 60;
    private static final int MOST_CLASSES = 12;
    private static final int MOST_FIELDS = 20;
    private static final int DEEPEST = 8;

    private final CompilationUnitTree unit;
    private final Trees trees;
    private final Set<String> ownClasses = new TreeSet<>();
    private final Map<Element, Set<Element>> calls = new LinkedHashMap<>();
    private final Map<Element, Set<String>> thrown = new LinkedHashMap<>();

    private LanguageTest(CompilationUnitTree unit, Trees trees) {
        this.unit = unit;
        this.trees = trees;
    }

    // ---- what a rule needs to know of a place

    private void rule(int number, String what, Tree tree, boolean kept) {
        long place = trees.getSourcePositions().getStartPosition(unit, tree);
        long line = unit.getLineMap().getLineNumber(place);
        Check.due("rule " + number + ", line " + line + ": " + what, true, kept);
    }

    private Element elementOf(Tree tree) {
        return trees.getElement(new TreePath(getCurrentPath(), tree));
    }

    /** The method at hand; null in the initialiser of a field. */
    private MethodTree methodAround() {
        for (TreePath path = getCurrentPath(); path != null; path = path.getParentPath()) {
            if (path.getLeaf() instanceof MethodTree) {
                return (MethodTree) path.getLeaf();
            }
        }
        return null;
    }

    private Element methodElementAround() {
        MethodTree method = methodAround();
        return method == null ? null : trees.getElement(trees.getPath(unit, method));
    }

    private boolean inConstructorOrField() {
        MethodTree method = methodAround();
        return method == null || method.getReturnType() == null;
    }

    private static boolean is(Element element, Modifier modifier) {
        return element.getModifiers().contains(modifier);
    }

    /** A number that is written out, or a constant; null for all else. */
    private Object constantOf(ExpressionTree tree) {
        if (tree instanceof LiteralTree) {
            return ((LiteralTree) tree).getValue();
        }
        Element element = elementOf(tree);
        return element instanceof VariableElement ? ((VariableElement) element).getConstantValue() : null;
    }

    private boolean isPositiveConstant(ExpressionTree tree) {
        Object value = constantOf(tree);
        return value instanceof Integer && (Integer) value > 0;
    }

    // ---- classes, fields, types

    @Override
    public Void scan(Tree tree, Void none) {
        if (tree != null) {
            rule(2, tree.getKind() + " is among what the program needs so far", tree, KINDS.contains(tree.getKind()));
        }
        return super.scan(tree, none);
    }

    @Override
    public Void visitImport(ImportTree tree, Void none) {
        rule(4, "imports only Arrays", tree, tree.getQualifiedIdentifier().toString().equals("java.util.Arrays"));
        return super.visitImport(tree, none);
    }

    @Override
    public Void visitClass(ClassTree tree, Void none) {
        Element self = trees.getElement(getCurrentPath());
        boolean outermost = getCurrentPath().getParentPath().getLeaf() == unit;
        rule(2, "a class is final", tree, is(self, Modifier.FINAL));
        rule(1, "a class inside is private and static", tree,
                outermost || is(self, Modifier.PRIVATE) && is(self, Modifier.STATIC));
        int fields = 0;
        for (Tree member : tree.getMembers()) {
            Element element = trees.getElement(new TreePath(getCurrentPath(), member));
            rule(5, "no initialiser block", member, member.getKind() != Kind.BLOCK);
            if (element != null && element.getKind() == ElementKind.FIELD && !is(element, Modifier.STATIC)) {
                fields++;
            }
        }
        rule(11, fields + " fields", tree, fields <= MOST_FIELDS);
        return super.visitClass(tree, none);
    }

    @Override
    public Void visitVariable(VariableTree tree, Void none) {
        Element element = trees.getElement(getCurrentPath());
        rule(3, "the type " + tree.getType(), tree, isType(tree.getType()));
        if (element.getKind() == ElementKind.FIELD && is(element, Modifier.STATIC)) {
            rule(5, element + " is a constant", tree, is(element, Modifier.FINAL)
                    && CONSTANT_TYPES.contains(tree.getType().toString())
                    && ((VariableElement) element).getConstantValue() != null);
        }
        return super.visitVariable(tree, none);
    }

    private boolean isType(Tree type) {
        return TYPES.contains(type.toString()) || ownClasses.contains(type.toString().replaceFirst("\\[\\]$", ""));
    }

    // ---- methods

    @Override
    public Void visitMethod(MethodTree tree, Void none) {
        Element self = trees.getElement(getCurrentPath());
        calls.put(self, new HashSet<>());
        thrown.put(self, new TreeSet<>());
        if (tree.getReturnType() != null) {
            String type = tree.getReturnType().toString();
            rule(3, "the type " + type, tree, type.equals("void") || isType(tree.getReturnType()));
        }
        rule(11, tree.getParameters().size() + " parameters", tree, tree.getParameters().size() <= MOST_PARAMETERS);
        rule(11, tree.getName() + " has " + linesOf(tree) + " lines", tree, linesOf(tree) <= MOST_LINES);
        return super.visitMethod(tree, none);
    }

    private long linesOf(Tree tree) {
        long start = trees.getSourcePositions().getStartPosition(unit, tree);
        long end = trees.getSourcePositions().getEndPosition(unit, tree);
        return start < 0 || end < 0 ? 0 : unit.getLineMap().getLineNumber(end) - unit.getLineMap().getLineNumber(start);
    }

    @Override
    public Void visitMethodInvocation(MethodInvocationTree tree, Void none) {
        Element called = trees.getElement(getCurrentPath());
        Element caller = methodElementAround();
        Element owner = called.getEnclosingElement();
        if (called.getKind() == ElementKind.CONSTRUCTOR) {
            return super.visitMethodInvocation(tree, none);
        }
        if (trees.getTree(called) == null) {
            rule(4, "calls " + owner + "." + called, tree, LIBRARY.contains(owner + "." + called));
        } else if (caller != null) {
            calls.get(caller).add(called);
        }
        return super.visitMethodInvocation(tree, none);
    }

    // ---- exceptions

    @Override
    public Void visitThrow(ThrowTree tree, Void none) {
        boolean made = tree.getExpression() instanceof NewClassTree;
        rule(6, "throws a new exception", tree, made);
        rule(6, "throws in a method", tree, !inConstructorOrField());
        if (made && !inConstructorOrField()) {
            NewClassTree exception = (NewClassTree) tree.getExpression();
            String name = exception.getIdentifier().toString();
            rule(6, "throws " + name, tree, EXCEPTIONS.contains(name));
            for (ExpressionTree argument : exception.getArguments()) {
                rule(6, "its text is written out", tree, argument.getKind() == Kind.STRING_LITERAL);
            }
            thrown.get(methodElementAround()).add("java.lang." + name);
        }
        return super.visitThrow(tree, none);
    }

    @Override
    public Void visitLiteral(LiteralTree tree, Void none) {
        if (tree.getValue() instanceof String) {
            Tree around = getCurrentPath().getParentPath().getParentPath().getLeaf();
            rule(3, "a text stands in an exception alone", tree, around instanceof ThrowTree);
        }
        return super.visitLiteral(tree, none);
    }

    // ---- what could make the machine throw

    @Override
    public Void visitBinary(BinaryTree tree, Void none) {
        if (tree.getKind() == Kind.DIVIDE || tree.getKind() == Kind.REMAINDER) {
            rule(7, "divides by a constant above 0", tree, isPositiveConstant(tree.getRightOperand()));
        }
        return super.visitBinary(tree, none);
    }

    @Override
    public Void visitTypeCast(TypeCastTree tree, Void none) {
        rule(7, "casts numbers alone", tree, tree.getType().getKind() == Kind.PRIMITIVE_TYPE);
        return super.visitTypeCast(tree, none);
    }

    @Override
    public Void visitNewArray(NewArrayTree tree, Void none) {
        boolean one = tree.getDimensions().size() == 1;
        rule(7, "makes an array of a constant length", tree, one && isPositiveConstant(tree.getDimensions().get(0)));
        rule(12, "makes arrays ahead of all calls", tree, inConstructorOrField());
        return super.visitNewArray(tree, none);
    }

    @Override
    public Void visitNewClass(NewClassTree tree, Void none) {
        MethodTree method = methodAround();
        boolean thrownHere = getCurrentPath().getParentPath().getLeaf() instanceof ThrowTree;
        rule(12, "makes objects ahead of all calls, or in " + MAKER, tree,
                thrownHere || inConstructorOrField() || method.getName().contentEquals(MAKER));
        return super.visitNewClass(tree, none);
    }

    // ---- loops

    @Override
    public Void visitForLoop(ForLoopTree tree, Void none) {
        rule(9, "a loop counts one variable", tree, tree.getInitializer().size() == 1 && tree.getUpdate().size() == 1);
        StatementTree start = tree.getInitializer().get(0);
        String counter = start instanceof VariableTree ? ((VariableTree) start).getName().toString() : "";
        ExpressionTree step = ((ExpressionStatementTree) tree.getUpdate().get(0)).getExpression();
        boolean up = step.getKind() == Kind.POSTFIX_INCREMENT;
        rule(9, "by one each time", tree, (up || step.getKind() == Kind.POSTFIX_DECREMENT)
                && ((UnaryTree) step).getExpression().toString().equals(counter));
        String end = String.valueOf(tree.getCondition());
        rule(9, "against a bound: " + end, tree, end.contains(counter + (up ? " <" : " >")) && !end.contains("||"));
        String body = tree.getStatement().toString();
        rule(9, "and nothing else changes it", tree,
                !body.matches("(?s).*\\b" + counter + " ?(=[^=]|\\+=|-=|\\+\\+|--).*"));
        return super.visitForLoop(tree, none);
    }

    @Override
    public Void visitIdentifier(IdentifierTree tree, Void none) {
        Element element = trees.getElement(getCurrentPath());
        TypeMirror type = element instanceof VariableElement ? element.asType() : null;
        rule(3, "no doubles", tree, type == null || !type.toString().matches("double|float|byte|short"));
        return super.visitIdentifier(tree, none);
    }

    // ---- who calls whom

    private int depthFrom(Element method, int open) {
        if (open > calls.size()) {
            return open;
        }
        int deepest = 1;
        for (Element called : calls.getOrDefault(method, Set.of())) {
            deepest = Math.max(deepest, 1 + depthFrom(called, open + 1));
        }
        return deepest;
    }

    private Set<String> thrownFrom(Element method) {
        Set<String> all = new TreeSet<>(thrown.getOrDefault(method, Set.of()));
        for (Element called : calls.getOrDefault(method, Set.of())) {
            all.addAll(thrownFrom(called));
        }
        return all;
    }

    private void callsOfAll() {
        for (Element method : calls.keySet()) {
            int depth = depthFrom(method, 1);
            Check.due("rule 11: the calls of " + method + " go " + depth + " deep", true, depth <= DEEPEST);
            if (depth <= DEEPEST && is(method, Modifier.PUBLIC)) {
                Set<String> told = new TreeSet<>();
                ((ExecutableElement) method).getThrownTypes().forEach(type -> told.add(type.toString()));
                Check.due("rule 6: what " + method + " throws", told.toString(), thrownFrom(method).toString());
            }
        }
    }

    private void classesOfAll() {
        Check.due("rule 1: classes outside", 1, unit.getTypeDecls().size());
        new TreePathScanner<Void, Void>() {
            @Override
            public Void visitClass(ClassTree tree, Void none) {
                ownClasses.add(tree.getSimpleName().toString());
                return super.visitClass(tree, none);
            }
        }.scan(unit, null);
        Check.due("rule 11: at most " + MOST_CLASSES + " classes", true, ownClasses.size() <= MOST_CLASSES);
        Check.due("rule 1: a package line", true, unit.getPackageName() == null);
    }

    public static void main(String[] args) throws IOException {
        Check.watch();
        JavaCompiler compiler = ToolProvider.getSystemJavaCompiler();
        StandardJavaFileManager files = compiler.getStandardFileManager(null, null, null);
        JavacTask task = (JavacTask) compiler.getTask(
                null, files, null, List.of("-proc:none"), null, files.getJavaFileObjects(PROGRAM));
        CompilationUnitTree unit = task.parse().iterator().next();
        task.analyze();
        LanguageTest test = new LanguageTest(unit, Trees.instance(task));
        test.classesOfAll();
        test.scan(unit, null);
        test.callsOfAll();
        String program = Files.readString(PROGRAM);
        Check.due("rule 3: all signs are below 128", true, program.chars().allMatch(sign -> sign < 128));
        // The compiler's tree has written texts joined already.
        Check.due("rule 10: texts joined by +", false, program.matches("(?s).*(\"\\s*\\+|\\+\\s*\").*"));
        Check.end("LanguageTest");
    }
}
