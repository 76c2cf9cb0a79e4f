import com.sun.source.tree.ArrayAccessTree;
import com.sun.source.tree.AssignmentTree;
import com.sun.source.tree.BinaryTree;
import com.sun.source.tree.ClassTree;
import com.sun.source.tree.CompilationUnitTree;
import com.sun.source.tree.DoWhileLoopTree;
import com.sun.source.tree.EnhancedForLoopTree;
import com.sun.source.tree.ForLoopTree;
import com.sun.source.tree.ImportTree;
import com.sun.source.tree.LiteralTree;
import com.sun.source.tree.MethodInvocationTree;
import com.sun.source.tree.MethodTree;
import com.sun.source.tree.NewArrayTree;
import com.sun.source.tree.NewClassTree;
import com.sun.source.tree.Tree;
import com.sun.source.tree.TypeCastTree;
import com.sun.source.tree.VariableTree;
import com.sun.source.tree.WhileLoopTree;
import com.sun.source.util.JavacTask;
import com.sun.source.util.TreePath;
import com.sun.source.util.TreePathScanner;
import com.sun.source.util.Trees;
import java.io.IOException;
import java.nio.file.Files;
import java.nio.file.Path;
import java.util.HashMap;
import java.util.HashSet;
import java.util.List;
import java.util.Map;
import java.util.Set;
import java.util.TreeSet;
import javax.lang.model.element.Element;
import javax.lang.model.element.ElementKind;
import javax.lang.model.element.ExecutableElement;
import javax.lang.model.element.Modifier;
import javax.lang.model.element.TypeElement;
import javax.lang.model.element.VariableElement;
import javax.tools.JavaCompiler;
import javax.tools.StandardJavaFileManager;
import javax.tools.ToolProvider;

/** The file keeps to the rules of LANGUAGE.md, as far as its tree shows them. */
public final class RulesTest extends TreePathScanner<Void, Void> {
    private static final Path FILE = Path.of("src/main/java/OneSunbeam.java");
    private static final String TYPES = "int|long|short|byte|char|boolean|String|void"
            + "|Town|Beams|Law|LawReader|Keepers|Aiming|Mending|Opening|Theft";
    private static final Set<String> LIBRARY = Set.of(
            "java.lang.String.length", "java.lang.String.charAt", "java.lang.String.isEmpty", "java.lang.String.equals",
            "java.lang.String.substring", "java.lang.String.toCharArray", "java.lang.Integer.compare",
            "java.lang.Integer.bitCount", "java.lang.Long.compare", "java.lang.Math.max", "java.lang.Math.min",
            "java.lang.Math.abs", "java.lang.Math.floorMod", "java.lang.Math.floorDiv", "java.lang.System.arraycopy",
            "java.util.Arrays.copyOf", "java.util.Arrays.copyOfRange", "java.util.Arrays.fill");
    /** What the rules leave of Java's kinds of trees, as this file needs them; another kind is looked up there first. */
    private static final Set<String> KINDS = Set.of(
            "COMPILATION_UNIT", "IMPORT", "CLASS", "METHOD", "VARIABLE", "MODIFIERS", "BLOCK", "PRIMITIVE_TYPE",
            "ARRAY_TYPE", "IDENTIFIER", "MEMBER_SELECT", "ARRAY_ACCESS", "NEW_ARRAY", "NEW_CLASS", "METHOD_INVOCATION",
            "ASSIGNMENT", "PLUS_ASSIGNMENT", "MINUS_ASSIGNMENT", "OR_ASSIGNMENT", "POSTFIX_INCREMENT",
            "POSTFIX_DECREMENT", "UNARY_MINUS", "LOGICAL_COMPLEMENT", "PLUS", "MINUS", "MULTIPLY", "DIVIDE", "REMAINDER",
            "AND", "OR", "LEFT_SHIFT", "RIGHT_SHIFT", "UNSIGNED_RIGHT_SHIFT", "LESS_THAN", "LESS_THAN_EQUAL",
            "GREATER_THAN", "GREATER_THAN_EQUAL", "EQUAL_TO", "NOT_EQUAL_TO", "CONDITIONAL_AND", "CONDITIONAL_OR",
            "CONDITIONAL_EXPRESSION", "PARENTHESIZED", "TYPE_CAST", "INT_LITERAL", "CHAR_LITERAL", "STRING_LITERAL",
            "BOOLEAN_LITERAL", "NULL_LITERAL", "EXPRESSION_STATEMENT", "RETURN", "IF", "FOR_LOOP", "WHILE_LOOP",
            "SWITCH", "CASE", "CONSTANT_CASE_LABEL", "DEFAULT_CASE_LABEL", "BREAK");
    private static final int MOST_DEEP = 8;
    private static int wrong = 0;

    private final Trees trees;
    private final CompilationUnitTree unit;
    private final Map<String, Set<String>> calls = new HashMap<>();
    private final Map<String, Integer> depths = new HashMap<>();
    private final Set<String> open = new HashSet<>();
    private String method = "";
    private int loops = 0;
    private int classes = 0;

    private RulesTest(Trees trees, CompilationUnitTree unit) {
        this.trees = trees;
        this.unit = unit;
    }

    public static void main(String[] arguments) throws IOException {
        JavaCompiler compiler = ToolProvider.getSystemJavaCompiler();
        try (StandardJavaFileManager files = compiler.getStandardFileManager(null, null, null)) {
            JavacTask task = (JavacTask) compiler.getTask(null, files, null, List.of("-proc:none"), null,
                    files.getJavaFileObjects(FILE));
            CompilationUnitTree unit = task.parse().iterator().next();
            task.analyze();
            RulesTest rules = new RulesTest(Trees.instance(task), unit);
            rules.scan(unit, null);
            rules.endOfFile();
        }
        System.out.println(wrong + " wrong");
        if (wrong != 0) System.exit(1);
    }

    private void check(boolean isRight, int rule, String what) {
        if (!isRight) {
            wrong++;
            long line = getCurrentPath() == null ? 0 : lineOf(getCurrentPath().getLeaf(), false);
            System.out.println("rule " + rule + ", line " + line + ": " + what);
        }
    }

    private long lineOf(Tree tree, boolean isEnd) {
        long place = isEnd ? trees.getSourcePositions().getEndPosition(unit, tree)
                : trees.getSourcePositions().getStartPosition(unit, tree);
        return place < 0 ? 0 : unit.getLineMap().getLineNumber(place);
    }

    private void endOfFile() throws IOException {
        check(unit.getPackageName() == null, 1, "a package line");
        check(classes <= 12, 11, classes + " classes");
        check(Files.readString(FILE).chars().allMatch(c -> c == '\n' || c >= 32 && c < 127), 4, "a sign above 127");
        int deepest = 0;
        for (String from : new TreeSet<>(calls.keySet())) deepest = Math.max(deepest, depthOf(from));
        check(deepest <= MOST_DEEP, 11, "calls go " + deepest + " deep");
        System.out.println(calls.size() + " methods, calls go " + deepest + " deep");
    }

    /** How many calls stand open at most from here on, the library's counted too. */
    private int depthOf(String from) {
        if (depths.containsKey(from)) return depths.get(from);
        check(open.add(from), 8, from + " calls itself");
        int deepest = 0;
        for (String to : calls.getOrDefault(from, Set.of())) {
            if (!open.contains(to)) deepest = Math.max(deepest, depthOf(to));
            else check(false, 8, from + " calls " + to + " again");
        }
        open.remove(from);
        depths.put(from, deepest + 1);
        return deepest + 1;
    }

    @Override
    public Void scan(Tree tree, Void nothing) {
        if (tree != null && !KINDS.contains(tree.getKind().name())) {
            wrong++;
            System.out.println("line " + lineOf(tree, false) + ": a tree of kind " + tree.getKind());
        }
        return super.scan(tree, nothing);
    }

    @Override
    public Void visitImport(ImportTree tree, Void nothing) {
        check(tree.getQualifiedIdentifier().toString().matches("java\\.util\\.(Arrays|ArrayList|List)"), 4, tree.toString());
        return null;
    }

    @Override
    public Void visitClass(ClassTree tree, Void nothing) {
        classes++;
        boolean isInside = getCurrentPath().getParentPath().getLeaf() instanceof ClassTree;
        boolean isOutmost = getCurrentPath().getParentPath().getLeaf() instanceof CompilationUnitTree;
        check(isInside || isOutmost, 2, "a class within a method");
        Set<Modifier> modifiers = tree.getModifiers().getFlags();
        check(isOutmost || modifiers.contains(Modifier.STATIC) && !modifiers.contains(Modifier.PUBLIC)
                && !modifiers.contains(Modifier.PROTECTED), 1, "class " + tree.getSimpleName() + " is open or not static");
        check(tree.getExtendsClause() == null && tree.getTypeParameters().isEmpty(), 2, "class " + tree.getSimpleName());
        int fields = 0;
        for (Tree member : tree.getMembers()) {
            check(member.getKind() != Tree.Kind.BLOCK, 5, "an initialiser block");
            if (member instanceof VariableTree field) {
                fields += field.getModifiers().getFlags().contains(Modifier.STATIC) ? 0 : 1;
                check(!field.getModifiers().getFlags().contains(Modifier.STATIC) || isConstant(field), 5, field.toString());
            }
        }
        check(fields <= 20, 11, "class " + tree.getSimpleName() + " has " + fields + " fields");
        return super.visitClass(tree, nothing);
    }

    private static boolean isConstant(VariableTree field) {
        boolean isArray = field.getType().toString().matches("(int|long|char|byte)\\[\\]");
        boolean isWrittenOut = field.getInitializer() instanceof NewArrayTree made && made.getInitializers() != null;
        return field.getModifiers().getFlags().contains(Modifier.FINAL)
                && (isArray && isWrittenOut || field.getType().toString().matches("int|long|boolean|char|String"));
    }

    @Override
    public Void visitMethod(MethodTree tree, Void nothing) {
        method = nameOf(trees.getElement(getCurrentPath()));
        loops = 0;
        calls.computeIfAbsent(method, k -> new TreeSet<>());
        long lines = lineOf(tree, true) - lineOf(tree, false) + 1;
        check(lines <= 60, 11, method + " has " + lines + " lines");
        check(tree.getParameters().size() <= 7, 11, method + " takes too much");
        check(tree.getTypeParameters().isEmpty() && tree.getThrows().isEmpty(), 6, method);
        check(!tree.getName().toString().matches("equals|hashCode|toString"), 6, method);
        check(tree.getReturnType() == null || isAllowed(tree.getReturnType()), 3, method + " answers another type");
        super.visitMethod(tree, nothing);
        method = "";
        return null;
    }

    @Override
    public Void visitVariable(VariableTree tree, Void nothing) {
        check(isAllowed(tree.getType()), 3, "a variable of type " + tree.getType());
        return super.visitVariable(tree, nothing);
    }

    private static boolean isAllowed(Tree type) {
        return type != null && type.toString().matches("(" + TYPES + ")(\\[\\])?");
    }

    @Override
    public Void visitMethodInvocation(MethodInvocationTree tree, Void nothing) {
        Element called = trees.getElement(getCurrentPath());
        // A constructor without a line of its own calls that of Object.
        if (called.getKind() == ElementKind.METHOD) {
            String name = nameOf(called);
            boolean isOwn = name.startsWith("OneSunbeam.");
            check(isOwn || LIBRARY.contains(name.substring(0, name.indexOf('('))), 4, "a call of " + name);
            calls.computeIfAbsent(method, k -> new TreeSet<>()).add(name);
        }
        return super.visitMethodInvocation(tree, nothing);
    }

    @Override
    public Void visitNewClass(NewClassTree tree, Void nothing) {
        check(tree.getClassBody() == null, 2, "a class without a name");
        check(loops == 0, 12, "an object is made in a loop");
        calls.computeIfAbsent(method, k -> new TreeSet<>()).add(nameOf(trees.getElement(getCurrentPath())));
        return super.visitNewClass(tree, nothing);
    }

    @Override
    public Void visitNewArray(NewArrayTree tree, Void nothing) {
        check(loops == 0, 12, "an array is made in a loop");
        check(tree.getDimensions().size() <= 1, 3, "an array of several dimensions");
        return super.visitNewArray(tree, nothing);
    }

    @Override
    public Void visitTypeCast(TypeCastTree tree, Void nothing) {
        check(tree.getType().getKind() == Tree.Kind.PRIMITIVE_TYPE, 6, "a cast to " + tree.getType());
        return super.visitTypeCast(tree, nothing);
    }

    @Override
    public Void visitBinary(BinaryTree tree, Void nothing) {
        String left = trees.getTypeMirror(new TreePath(getCurrentPath(), tree.getLeftOperand())).toString();
        String right = trees.getTypeMirror(new TreePath(getCurrentPath(), tree.getRightOperand())).toString();
        check(!left.equals("java.lang.String") && !right.equals("java.lang.String"), 10, "texts are joined or compared");
        return super.visitBinary(tree, nothing);
    }

    @Override
    public Void visitAssignment(AssignmentTree tree, Void nothing) {
        if (tree.getVariable() instanceof ArrayAccessTree place) {
            Element array = trees.getElement(new TreePath(new TreePath(getCurrentPath(), place), place.getExpression()));
            check(array != null && !array.getModifiers().contains(Modifier.STATIC), 5, "a constant array is changed");
        }
        return super.visitAssignment(tree, nothing);
    }

    @Override
    public Void visitLiteral(LiteralTree tree, Void nothing) {
        boolean isPlain = !(tree.getValue() instanceof String text) || text.chars().allMatch(c -> c > 0 && c < 128);
        check(isPlain, 4, "a sign of a constant text");
        return super.visitLiteral(tree, nothing);
    }

    @Override
    public Void visitForLoop(ForLoopTree tree, Void nothing) {
        check(tree.getCondition() != null && !tree.getUpdate().isEmpty(), 9, "a loop without a bound");
        loops++;
        super.visitForLoop(tree, nothing);
        loops--;
        return null;
    }

    @Override
    public Void visitWhileLoop(WhileLoopTree tree, Void nothing) {
        check(!tree.getCondition().toString().equals("(true)"), 9, "a loop without a bound");
        loops++;
        super.visitWhileLoop(tree, nothing);
        loops--;
        return null;
    }

    @Override
    public Void visitDoWhileLoop(DoWhileLoopTree tree, Void nothing) {
        loops++;
        super.visitDoWhileLoop(tree, nothing);
        loops--;
        return null;
    }

    @Override
    public Void visitEnhancedForLoop(EnhancedForLoopTree tree, Void nothing) {
        loops++;
        super.visitEnhancedForLoop(tree, nothing);
        loops--;
        return null;
    }

    private static String nameOf(Element element) {
        StringBuilder name = new StringBuilder(((TypeElement) element.getEnclosingElement()).getQualifiedName());
        name.append('.').append(element.getSimpleName()).append('(');
        for (VariableElement parameter : ((ExecutableElement) element).getParameters()) name.append(parameter.asType()).append(' ');
        return name.append(')').toString();
    }
}
