import com.sun.source.tree.ArrayAccessTree;
import com.sun.source.tree.AssignmentTree;
import com.sun.source.tree.BinaryTree;
import com.sun.source.tree.ClassTree;
import com.sun.source.tree.CompilationUnitTree;
import com.sun.source.tree.CompoundAssignmentTree;
import com.sun.source.tree.DoWhileLoopTree;
import com.sun.source.tree.ExpressionTree;
import com.sun.source.tree.ForLoopTree;
import com.sun.source.tree.ImportTree;
import com.sun.source.tree.LiteralTree;
import com.sun.source.tree.MethodInvocationTree;
import com.sun.source.tree.MethodTree;
import com.sun.source.tree.NewArrayTree;
import com.sun.source.tree.NewClassTree;
import com.sun.source.tree.ParenthesizedTree;
import com.sun.source.tree.Tree;
import com.sun.source.tree.TypeCastTree;
import com.sun.source.tree.UnaryTree;
import com.sun.source.tree.VariableTree;
import com.sun.source.tree.WhileLoopTree;
import com.sun.source.util.JavacTask;
import com.sun.source.util.SourcePositions;
import com.sun.source.util.TreePath;
import com.sun.source.util.TreePathScanner;
import com.sun.source.util.Trees;
import java.io.IOException;
import java.nio.file.Path;
import java.util.ArrayDeque;
import java.util.Deque;
import java.util.EnumSet;
import java.util.HashSet;
import java.util.List;
import java.util.Map;
import java.util.Set;
import java.util.TreeMap;
import java.util.TreeSet;
import javax.lang.model.element.Element;
import javax.lang.model.element.ElementKind;
import javax.lang.model.element.Modifier;
import javax.lang.model.type.ArrayType;
import javax.lang.model.type.TypeKind;
import javax.lang.model.type.TypeMirror;
import javax.tools.JavaCompiler;
import javax.tools.StandardJavaFileManager;
import javax.tools.ToolProvider;

/**
 * The rules of LANGUAGE.md that can be seen of the source, looked for in the tree that the compiler
 * makes of it. The numbers in what is printed are those of the rules. The class is held to less than
 * the rules leave: it has no use for lists, doubles, records or enums, and no call makes an object.
 */
public final class LanguageTest extends TreePathScanner<Void, Void> {
    private static final Path SOURCE = Path.of("src/main/java/ChairRanks.java");
    private static final int MOST_LINES = 60, MOST_PARAMETERS = 7, MOST_FIELDS = 20, MOST_CLASSES = 12, MOST_DEEP = 8;
    private static final Set<String> LIBRARY = Set.of(
        "java.lang.String.indexOf", "java.lang.String.charAt", "java.lang.String.length", "java.lang.System.arraycopy",
        "java.util.Arrays.fill", "java.lang.Integer.bitCount", "java.lang.Math.max", "java.lang.Math.min");
    private static final Set<Tree.Kind> RULED_OUT = EnumSet.of(
        Tree.Kind.THROW, Tree.Kind.TRY, Tree.Kind.CATCH, Tree.Kind.SYNCHRONIZED, Tree.Kind.ASSERT,
        Tree.Kind.LAMBDA_EXPRESSION, Tree.Kind.MEMBER_REFERENCE, Tree.Kind.BINDING_PATTERN, Tree.Kind.SWITCH_EXPRESSION,
        Tree.Kind.ANNOTATION, Tree.Kind.ENHANCED_FOR_LOOP, Tree.Kind.ENUM, Tree.Kind.RECORD, Tree.Kind.INTERFACE);
    /** The one round of methods that call one another; its depth is carried as an argument. */
    private static final Set<String> RECURSIVE = Set.of("Asks.sizeOf", "Asks.markOf", "Asks.plainSize", "Asks.oakMark");

    private final Trees trees;
    private final SourcePositions positions;
    private final CompilationUnitTree unit;
    private final Map<String, Set<String>> calls = new TreeMap<>();
    private final Deque<String> within = new ArrayDeque<>();
    private int classes;
    private int wrong;

    private LanguageTest(Trees trees, CompilationUnitTree unit) {
        this.trees = trees;
        this.positions = trees.getSourcePositions();
        this.unit = unit;
    }

    public static void main(String[] args) throws IOException {
        Path source = args.length > 0 ? Path.of(args[0]) : SOURCE;
        JavaCompiler compiler = ToolProvider.getSystemJavaCompiler();
        try (StandardJavaFileManager files = compiler.getStandardFileManager(null, null, null)) {
            JavacTask task = (JavacTask) compiler.getTask(null, files, null, List.of("--release", "17", "-proc:none"), null,
                files.getJavaFileObjects(source));
            CompilationUnitTree unit = task.parse().iterator().next();
            task.analyze();
            LanguageTest test = new LanguageTest(Trees.instance(task), unit);
            test.theFile();
            test.scan(unit, null);
            test.theDepth();
            System.out.println(test.wrong == 0 ? "the source keeps to the rules" : test.wrong + " things are outside the rules");
            if (test.wrong != 0) {
                System.exit(1);
            }
        }
    }

    private void due(boolean so, int rule, Tree at, String what) {
        if (!so) {
            wrong++;
            long line = at == null ? 0 : unit.getLineMap().getLineNumber(positions.getStartPosition(unit, at));
            System.out.println("rule " + rule + ", line " + line + ": " + what);
        }
    }

    private void theFile() {
        due(unit.getPackageName() == null, 1, null, "a package line");
        due(unit.getTypeDecls().size() == 1, 1, null, "one class in the file");
        for (ImportTree tree : unit.getImports()) {
            due(tree.getQualifiedIdentifier().toString().equals("java.util.Arrays"), 4, tree, "" + tree);
        }
    }

    @Override public Void scan(Tree tree, Void nothing) {
        if (tree != null) {
            due(!RULED_OUT.contains(tree.getKind()), 6, tree, tree.getKind() + " is ruled out");
        }
        return super.scan(tree, nothing);
    }

    @Override public Void visitClass(ClassTree tree, Void nothing) {
        classes++;
        due(classes <= MOST_CLASSES, 11, tree, "too many classes");
        boolean inside = getCurrentPath().getParentPath().getLeaf() != unit;
        due(!inside || tree.getModifiers().getFlags().contains(Modifier.STATIC), 2, tree, "a class that is not static");
        due(!inside || getCurrentPath().getParentPath().getLeaf() instanceof ClassTree, 2, tree, "a local class");
        int fields = 0;
        for (Tree member : tree.getMembers()) {
            due(member.getKind() != Tree.Kind.BLOCK, 5, member, "an initialiser block");
            if (member instanceof VariableTree field && !field.getModifiers().getFlags().contains(Modifier.STATIC)) {
                fields++;
            }
        }
        due(fields <= MOST_FIELDS, 11, tree, fields + " fields");
        within.push(tree.getSimpleName().toString());
        super.visitClass(tree, nothing);
        within.pop();
        return null;
    }

    @Override public Void visitMethod(MethodTree tree, Void nothing) {
        long first = unit.getLineMap().getLineNumber(positions.getStartPosition(unit, tree));
        long last = unit.getLineMap().getLineNumber(positions.getEndPosition(unit, tree));
        due(last - first < MOST_LINES, 11, tree, tree.getName() + " has " + (last - first + 1) + " lines");
        due(tree.getParameters().size() <= MOST_PARAMETERS, 11, tree, tree.getName() + " has too many parameters");
        String name = within.peek() + "." + tree.getName();
        calls.putIfAbsent(name, new TreeSet<>());
        within.push(name);
        super.visitMethod(tree, nothing);
        within.pop();
        return null;
    }

    @Override public Void visitVariable(VariableTree tree, Void nothing) {
        Element element = trees.getElement(getCurrentPath());
        due(isAllowed(element.asType()), 3, tree, tree.getName() + " is of type " + element.asType());
        if (element.getKind() == ElementKind.FIELD && element.getModifiers().contains(Modifier.STATIC)) {
            due(element.getModifiers().contains(Modifier.FINAL), 5, tree, tree.getName() + " is static and not final");
            due(isWrittenOut(tree.getInitializer()), 5, tree, tree.getName() + " is not written out");
        }
        return super.visitVariable(tree, nothing);
    }

    private boolean isAllowed(TypeMirror type) {
        if (type instanceof ArrayType array) {
            TypeMirror part = array.getComponentType();
            boolean ofTwo = part instanceof ArrayType;
            return ofTwo ? ((ArrayType) part).getComponentType().getKind().isPrimitive() : isAllowed(part);
        }
        boolean isWhole = type.getKind().isPrimitive() && type.getKind() != TypeKind.DOUBLE && type.getKind() != TypeKind.FLOAT;
        return isWhole || type.toString().startsWith("ChairRanks") || type.toString().equals("java.lang.String");
    }

    private static boolean isWrittenOut(ExpressionTree value) {
        if (value instanceof NewArrayTree array) {
            return array.getInitializers() != null;
        }
        return value != null && !(value instanceof MethodInvocationTree) && !(value instanceof NewClassTree);
    }

    @Override public Void visitMethodInvocation(MethodInvocationTree tree, Void nothing) {
        Element called = trees.getElement(new TreePath(getCurrentPath(), tree.getMethodSelect()));
        String owner = called.getEnclosingElement().toString();
        if (owner.startsWith("ChairRanks")) {
            String callee = called.getEnclosingElement().getSimpleName() + "." + called.getSimpleName();
            calls.computeIfAbsent(within.peek(), name -> new TreeSet<>()).add(callee);
        } else if (called.getKind() != ElementKind.CONSTRUCTOR) {
            due(LIBRARY.contains(owner + "." + called.getSimpleName()), 4, tree, "a call of " + owner + "." + called);
        }
        return super.visitMethodInvocation(tree, nothing);
    }

    @Override public Void visitNewClass(NewClassTree tree, Void nothing) {
        due(tree.getClassBody() == null, 2, tree, "an anonymous class");
        due(isMadeWithTheObject(), 12, tree, "an object made by a call");
        due(trees.getTypeMirror(getCurrentPath()).toString().startsWith("ChairRanks"), 4, tree, "an object of the library");
        return super.visitNewClass(tree, nothing);
    }

    @Override public Void visitNewArray(NewArrayTree tree, Void nothing) {
        due(isMadeWithTheObject(), 12, tree, "an array made by a call");
        return super.visitNewArray(tree, nothing);
    }

    /** In a constructor, or as the value of a field. */
    private boolean isMadeWithTheObject() {
        return !within.peek().contains(".") || within.peek().endsWith(".<init>");
    }

    @Override public Void visitTypeCast(TypeCastTree tree, Void nothing) {
        due(tree.getType().getKind() == Tree.Kind.PRIMITIVE_TYPE, 6, tree, "a cast that is not to a number");
        return super.visitTypeCast(tree, nothing);
    }

    @Override public Void visitBinary(BinaryTree tree, Void nothing) {
        TypeMirror type = trees.getTypeMirror(getCurrentPath());
        due(!type.toString().equals("java.lang.String"), 10, tree, "texts joined by +");
        for (ExpressionTree side : List.of(tree.getLeftOperand(), tree.getRightOperand())) {
            TypeMirror of = trees.getTypeMirror(new TreePath(getCurrentPath(), side));
            due(!of.toString().equals("java.lang.String"), 6, tree, "texts compared by sign");
        }
        if (tree.getKind() == Tree.Kind.DIVIDE || tree.getKind() == Tree.Kind.REMAINDER) {
            due(isNamedOrConstant(tree.getRightOperand()), 7, tree, "a divisor that is reckoned on the spot");
        }
        return super.visitBinary(tree, nothing);
    }

    /** What divides can have been looked at only if it has a name. */
    private static boolean isNamedOrConstant(ExpressionTree divisor) {
        if (divisor instanceof LiteralTree literal) {
            return literal.getValue() instanceof Number number && number.longValue() != 0;
        }
        return divisor.getKind() == Tree.Kind.IDENTIFIER || divisor.getKind() == Tree.Kind.MEMBER_SELECT;
    }

    @Override public Void visitForLoop(ForLoopTree tree, Void nothing) {
        due(tree.getCondition() != null && tree.getUpdate().size() == 1, 9, tree, "a for without an end of its own");
        return super.visitForLoop(tree, nothing);
    }

    @Override public Void visitWhileLoop(WhileLoopTree tree, Void nothing) {
        ExpressionTree inside = ((ParenthesizedTree) tree.getCondition()).getExpression();
        due(inside.getKind() != Tree.Kind.BOOLEAN_LITERAL, 9, tree, "a while without an end of its own");
        return super.visitWhileLoop(tree, nothing);
    }

    @Override public Void visitDoWhileLoop(DoWhileLoopTree tree, Void nothing) {
        due(false, 9, tree, "a do, whose end is not looked for here");
        return super.visitDoWhileLoop(tree, nothing);
    }

    @Override public Void visitAssignment(AssignmentTree tree, Void nothing) {
        noChangeOfConstants(tree, tree.getVariable());
        return super.visitAssignment(tree, nothing);
    }

    @Override public Void visitCompoundAssignment(CompoundAssignmentTree tree, Void nothing) {
        noChangeOfConstants(tree, tree.getVariable());
        return super.visitCompoundAssignment(tree, nothing);
    }

    @Override public Void visitUnary(UnaryTree tree, Void nothing) {
        noChangeOfConstants(tree, tree.getExpression());
        return super.visitUnary(tree, nothing);
    }

    private void noChangeOfConstants(Tree tree, ExpressionTree changed) {
        if (changed instanceof ArrayAccessTree access) {
            TreePath path = new TreePath(new TreePath(getCurrentPath(), access), access.getExpression());
            Element array = trees.getElement(path);
            due(array == null || !array.getModifiers().contains(Modifier.STATIC), 5, tree, "a constant array that is changed");
        }
    }

    private void theDepth() {
        for (String name : calls.keySet()) {
            boolean isRound = reaches(name, name, new HashSet<>());
            due(isRound == RECURSIVE.contains(name), 8, null, name + (isRound ? " calls itself" : " calls itself no more"));
        }
        for (String name : calls.keySet()) {
            int deep = depth(name, new HashSet<>());
            due(deep <= MOST_DEEP, 11, null, name + " goes " + deep + " deep");
        }
    }

    private boolean reaches(String from, String to, Set<String> seen) {
        for (String next : calls.getOrDefault(from, Set.of())) {
            if (next.equals(to) || seen.add(next) && reaches(next, to, seen)) {
                return true;
            }
        }
        return false;
    }

    private int depth(String from, Set<String> open) {
        int deepest = 0;
        open.add(from);
        for (String next : calls.getOrDefault(from, Set.of())) {
            if (!open.contains(next)) {
                deepest = Math.max(deepest, depth(next, open));
            }
        }
        open.remove(from);
        return deepest + 1;
    }
}
