import com.sun.source.tree.AssertTree;
import com.sun.source.tree.BinaryTree;
import com.sun.source.tree.BlockTree;
import com.sun.source.tree.CatchTree;
import com.sun.source.tree.ClassTree;
import com.sun.source.tree.CompilationUnitTree;
import com.sun.source.tree.CompoundAssignmentTree;
import com.sun.source.tree.DoWhileLoopTree;
import com.sun.source.tree.ExpressionTree;
import com.sun.source.tree.ForLoopTree;
import com.sun.source.tree.IdentifierTree;
import com.sun.source.tree.InstanceOfTree;
import com.sun.source.tree.LambdaExpressionTree;
import com.sun.source.tree.LiteralTree;
import com.sun.source.tree.MemberReferenceTree;
import com.sun.source.tree.MemberSelectTree;
import com.sun.source.tree.MethodTree;
import com.sun.source.tree.NewClassTree;
import com.sun.source.tree.ParenthesizedTree;
import com.sun.source.tree.SwitchExpressionTree;
import com.sun.source.tree.SwitchTree;
import com.sun.source.tree.SynchronizedTree;
import com.sun.source.tree.ThrowTree;
import com.sun.source.tree.Tree;
import com.sun.source.tree.TryTree;
import com.sun.source.tree.VariableTree;
import com.sun.source.tree.WhileLoopTree;
import com.sun.source.util.TreePath;
import com.sun.source.util.TreePathScanner;
import com.sun.source.util.TreeScanner;
import com.sun.source.util.Trees;
import java.util.ArrayList;
import java.util.HashSet;
import java.util.List;
import java.util.Map;
import java.util.Set;
import javax.lang.model.element.Element;
import javax.lang.model.element.ElementKind;
import javax.lang.model.element.ExecutableElement;
import javax.lang.model.element.Modifier;
import javax.lang.model.element.TypeElement;
import javax.lang.model.type.ArrayType;
import javax.lang.model.type.DeclaredType;
import javax.lang.model.type.TypeKind;
import javax.lang.model.type.TypeMirror;

/** Finds what ../shared/LANGUAGE.md rules out, as far as a look at the source can tell; each finding names its rule. */
final class LanguageRules extends TreePathScanner<Void, Void> {
    private static final int MOST_PARAMETERS = 7;
    private static final int MOST_LINES = 60;
    private static final int MOST_CLASSES = 12;
    private static final int MOST_FIELDS = 20;
    private static final int MOST_SIGN = 127;

    private static final Set<String> EXCEPTIONS = Set.of(
        "java.lang.IllegalStateException", "java.lang.IllegalArgumentException",
        "java.lang.IndexOutOfBoundsException", "java.lang.ArithmeticException",
        "java.lang.UnsupportedOperationException", "java.util.NoSuchElementException", "java.lang.RuntimeException");
    private static final Set<String> NUMBER_HELPERS = Set.of("java.lang.Integer", "java.lang.Long", "java.lang.Math");
    private static final Set<String> LIST = Set.of("<init>", "add", "get", "set", "remove", "size", "isEmpty", "clear",
        "of");
    // Methods alone: rule 4 names no constant of the library.
    private static final Map<String, Set<String>> LIBRARY = Map.of(
        "java.lang.String", Set.of("<init>", "length", "charAt", "isEmpty", "equals", "indexOf", "substring",
            "toCharArray"),
        "java.lang.StringBuilder", Set.of("<init>", "append", "charAt", "setCharAt", "setLength", "deleteCharAt",
            "reverse", "length", "toString"),
        "java.util.ArrayList", LIST,
        "java.util.List", LIST,
        "java.lang.System", Set.of("arraycopy"),
        "java.util.Arrays", Set.of("copyOf", "copyOfRange", "fill"),
        "java.lang.Object", Set.of("<init>"),
        "java.lang.Record", Set.of("<init>"),
        "java.lang.Enum", Set.of("<init>"));
    private static final Set<String> APPENDED = Set.of("char", "java.lang.String", "int");
    private static final Set<String> OTHER_TYPES = Set.of("java.lang.Integer", "java.lang.Long", "java.lang.Math",
        "java.lang.Comparable", "java.lang.Iterable", "java.util.Iterator", "java.lang.Override");

    private final Trees trees;
    private final CompilationUnitTree unit;
    private final List<String> findings = new ArrayList<>();
    private final Set<String> face = new HashSet<>();
    private int classes;

    LanguageRules(Trees trees, CompilationUnitTree unit) {
        this.trees = trees;
        this.unit = unit;
    }

    List<String> look() {
        if (unit.getPackageName() != null || unit.getTypeDecls().size() != 1) {
            find(1, unit, "one class without a package");
            return findings;
        }
        ClassTree top = (ClassTree) unit.getTypeDecls().get(0);
        for (Tree member : top.getMembers()) {
            if (member instanceof MethodTree method && isPublic(method) && method.getReturnType() != null) {
                face.add(method.getName().toString());
            }
        }
        scan(new TreePath(unit), null);
        for (Tree each : unit.getImports()) {
            scan(new TreePath(new TreePath(unit), each), null);
        }
        if (classes > MOST_CLASSES) {
            find(11, unit, "there are " + classes + " classes");
        }
        return findings;
    }

    private void find(int rule, Tree at, String what) {
        long line = unit.getLineMap().getLineNumber(Math.max(0, trees.getSourcePositions().getStartPosition(unit, at)));
        findings.add("rule " + rule + ", line " + line + ": " + what);
    }

    // ---- rule 1, 2, 3, 5 and 11: what is declared

    @Override
    public Void visitClass(ClassTree tree, Void nothing) {
        classes++;
        Set<Modifier> flags = tree.getModifiers().getFlags();
        boolean isTop = getCurrentPath().getParentPath().getLeaf() == unit;
        if (isTop && !(flags.contains(Modifier.PUBLIC) && flags.contains(Modifier.FINAL))) {
            find(1, tree, "the class is public and final");
        }
        if (!isTop && (flags.contains(Modifier.PUBLIC) || flags.contains(Modifier.PROTECTED))) {
            find(1, tree, tree.getSimpleName() + " can be seen from outside");
        }
        int fields = 0;
        for (Tree member : tree.getMembers()) {
            if (member instanceof VariableTree field) {
                fields += field.getModifiers().getFlags().contains(Modifier.STATIC) ? 0 : 1;
                lookAtField(field, isTop);
            }
            if (isTop && member instanceof MethodTree method && !isPublic(method) && !isPrivate(method)) {
                find(1, method, method.getName() + " is neither public nor private");
            }
        }
        if (fields > MOST_FIELDS) {
            find(11, tree, tree.getSimpleName() + " has " + fields + " fields");
        }
        return super.visitClass(tree, nothing);
    }

    private void lookAtField(VariableTree field, boolean isTop) {
        Set<Modifier> flags = field.getModifiers().getFlags();
        if (isTop && !flags.contains(Modifier.PRIVATE)) {
            find(1, field, field.getName() + " is not private");
        }
        if (!flags.contains(Modifier.STATIC)) {
            return;
        }
        String type = String.valueOf(field.getType());
        boolean isConstant = Set.of("int", "long", "boolean", "char", "String").contains(type);
        boolean isRow = Set.of("int[]", "long[]", "char[]", "byte[]").contains(type);
        boolean isWritten = field.getInitializer() != null
                && field.getInitializer().getKind() == Tree.Kind.NEW_ARRAY;
        if (!flags.contains(Modifier.FINAL) || !(isConstant || isRow && isWritten || isOwn(field))) {
            find(5, field, field.getName() + " is no constant");
        }
    }

    /** Whether the type is one of the source's own classes, or a row of them. */
    private boolean isOwn(VariableTree variable) {
        TypeMirror type = trees.getTypeMirror(new TreePath(getCurrentPath(), variable.getType()));
        return isOwn(type instanceof ArrayType row ? row.getComponentType() : type);
    }

    private static boolean isOwn(TypeMirror type) {
        return type instanceof DeclaredType declared && !nameOf(declared.asElement()).startsWith("java");
    }

    @Override
    public Void visitBlock(BlockTree tree, Void nothing) {
        if (tree.isStatic()) {
            find(5, tree, "a static block");
        }
        return super.visitBlock(tree, nothing);
    }

    @Override
    public Void visitMethod(MethodTree tree, Void nothing) {
        if (!isPublic(tree) && face.contains(tree.getName().toString())) {
            find(1, tree, tree.getName() + " bears a name of the face");
        }
        if (tree.getParameters().size() > MOST_PARAMETERS) {
            find(11, tree, tree.getName() + " takes too many parameters");
        }
        if (linesOf(tree) > MOST_LINES) {
            find(11, tree, tree.getName() + " is too long");
        }
        return super.visitMethod(tree, nothing);
    }

    private long linesOf(Tree tree) {
        long start = trees.getSourcePositions().getStartPosition(unit, tree);
        long end = trees.getSourcePositions().getEndPosition(unit, tree);
        return end < 0 ? 0 : unit.getLineMap().getLineNumber(end) - unit.getLineMap().getLineNumber(start) + 1;
    }

    private static boolean isPublic(MethodTree method) {
        return method.getModifiers().getFlags().contains(Modifier.PUBLIC);
    }

    private static boolean isPrivate(MethodTree method) {
        return method.getModifiers().getFlags().contains(Modifier.PRIVATE);
    }

    @Override
    public Void visitVariable(VariableTree tree, Void nothing) {
        TypeMirror type = trees.getTypeMirror(getCurrentPath());
        int dimensions = 0;
        while (type instanceof ArrayType row) {
            type = row.getComponentType();
            dimensions++;
        }
        boolean isNumber = type != null && type.getKind().isPrimitive();
        if (dimensions > 2 || dimensions == 2 && !isNumber || dimensions == 1 && !isNumber && !isOwn(type)) {
            find(3, tree, tree.getName() + " is an array of a kind that is not allowed");
        }
        return super.visitVariable(tree, nothing);
    }

    @Override
    public Void visitLambdaExpression(LambdaExpressionTree tree, Void nothing) {
        find(2, tree, "a lambda");
        return super.visitLambdaExpression(tree, nothing);
    }

    @Override
    public Void visitMemberReference(MemberReferenceTree tree, Void nothing) {
        find(2, tree, "a method reference");
        return super.visitMemberReference(tree, nothing);
    }

    // ---- rule 4: the library

    @Override
    public Void visitIdentifier(IdentifierTree tree, Void nothing) {
        lookAtUse(tree);
        return super.visitIdentifier(tree, nothing);
    }

    @Override
    public Void visitMemberSelect(MemberSelectTree tree, Void nothing) {
        lookAtUse(tree);
        return super.visitMemberSelect(tree, nothing);
    }

    @Override
    public Void visitNewClass(NewClassTree tree, Void nothing) {
        lookAtUse(tree);
        return super.visitNewClass(tree, nothing);
    }

    private void lookAtUse(Tree tree) {
        Element used = trees.getElement(getCurrentPath());
        if (used == null || used.getKind() == ElementKind.PACKAGE) {
            return;
        }
        if (used instanceof TypeElement type) {
            String name = nameOf(type);
            if (name.startsWith("java") && !LIBRARY.containsKey(name) && !OTHER_TYPES.contains(name)
                    && !EXCEPTIONS.contains(name)) {
                find(4, tree, name);
            }
            return;
        }
        // StringBuilder has some of its methods from a class above it that can not be seen.
        String owner = nameOf(used.getEnclosingElement()).replace("AbstractStringBuilder", "StringBuilder");
        if (owner.startsWith("java") && !isListed(owner, used)) {
            find(4, tree, owner + "." + used);
        }
    }

    private static boolean isListed(String owner, Element used) {
        if (!(used instanceof ExecutableElement method)) {
            return false;
        }
        String name = method.getSimpleName().toString();
        if (EXCEPTIONS.contains(owner)) {
            return name.equals("<init>");
        }
        if (NUMBER_HELPERS.contains(owner)) {
            return method.getModifiers().contains(Modifier.STATIC) && !name.endsWith("Exact") && isOfWholes(method);
        }
        if (name.equals("append")) {
            return method.getParameters().size() == 1
                    && APPENDED.contains(method.getParameters().get(0).asType().toString());
        }
        return LIBRARY.containsKey(owner) && LIBRARY.get(owner).contains(name);
    }

    private static boolean isOfWholes(ExecutableElement method) {
        return method.getParameters().stream().allMatch(each -> each.asType().getKind() == TypeKind.INT
                || each.asType().getKind() == TypeKind.LONG);
    }

    private static String nameOf(Element element) {
        return element instanceof TypeElement type ? type.getQualifiedName().toString() : String.valueOf(element);
    }

    @Override
    public Void visitLiteral(LiteralTree tree, Void nothing) {
        String text = tree.getValue() instanceof String || tree.getValue() instanceof Character
                ? tree.getValue().toString() : "";
        if (text.chars().anyMatch(sign -> sign < 1 || sign > MOST_SIGN)) {
            find(4, tree, "a sign that is not 1 to 127");
        }
        return super.visitLiteral(tree, nothing);
    }

    // ---- rule 6: exceptions

    @Override
    public Void visitThrow(ThrowTree tree, Void nothing) {
        boolean isFresh = tree.getExpression() instanceof NewClassTree made
                && EXCEPTIONS.contains(typeOf(made))
                && made.getArguments().stream().allMatch(each -> each.getKind() == Tree.Kind.STRING_LITERAL);
        if (!isFresh) {
            find(6, tree, "throws something that is not new and written");
        }
        MethodTree method = methodAround();
        if (method == null || method.getReturnType() == null) {
            find(6, tree, "a throw in a constructor");
        }
        return super.visitThrow(tree, nothing);
    }

    @Override
    public Void visitTry(TryTree tree, Void nothing) {
        if (tree.getFinallyBlock() != null || !tree.getResources().isEmpty()) {
            find(6, tree, "a finally or resources");
        }
        if (methodAround() != null && hasThrow(methodAround())) {
            find(6, tree, "a try in the method that throws");
        }
        return super.visitTry(tree, nothing);
    }

    @Override
    public Void visitCatch(CatchTree tree, Void nothing) {
        TypeMirror type = trees.getTypeMirror(new TreePath(getCurrentPath(), tree.getParameter().getType()));
        if (!EXCEPTIONS.contains(String.valueOf(type))) {
            find(6, tree, "catches " + type);
        }
        return super.visitCatch(tree, nothing);
    }

    @Override
    public Void visitSynchronized(SynchronizedTree tree, Void nothing) {
        find(6, tree, "synchronized");
        return super.visitSynchronized(tree, nothing);
    }

    @Override
    public Void visitAssert(AssertTree tree, Void nothing) {
        find(6, tree, "assert");
        return super.visitAssert(tree, nothing);
    }

    private MethodTree methodAround() {
        for (TreePath path = getCurrentPath(); path != null; path = path.getParentPath()) {
            if (path.getLeaf() instanceof MethodTree method) {
                return method;
            }
        }
        return null;
    }

    private static boolean hasThrow(MethodTree method) {
        boolean[] found = new boolean[1];
        new TreeScanner<Void, Void>() {
            @Override
            public Void visitThrow(ThrowTree tree, Void nothing) {
                found[0] = true;
                return null;
            }
        }.scan(method, null);
        return found[0];
    }

    private String typeOf(ExpressionTree tree) {
        return String.valueOf(trees.getTypeMirror(new TreePath(getCurrentPath(), tree)));
    }

    // ---- rules 6, 9 and 10: statements

    @Override
    public Void visitBinary(BinaryTree tree, Void nothing) {
        String left = typeOf(tree.getLeftOperand());
        String right = typeOf(tree.getRightOperand());
        boolean isText = left.equals("java.lang.String") || right.equals("java.lang.String");
        if (tree.getKind() == Tree.Kind.PLUS && isText) {
            find(10, tree, "texts are joined by +");
        }
        boolean isSame = tree.getKind() == Tree.Kind.EQUAL_TO || tree.getKind() == Tree.Kind.NOT_EQUAL_TO;
        if (isSame && left.equals(right) && (isText || left.equals("java.lang.Integer"))) {
            find(6, tree, "== between texts or Integers");
        }
        return super.visitBinary(tree, nothing);
    }

    @Override
    public Void visitCompoundAssignment(CompoundAssignmentTree tree, Void nothing) {
        if (typeOf(tree.getVariable()).equals("java.lang.String")) {
            find(10, tree, "texts are joined by +=");
        }
        return super.visitCompoundAssignment(tree, nothing);
    }

    @Override
    public Void visitInstanceOf(InstanceOfTree tree, Void nothing) {
        if (typeOf(tree.getExpression()).startsWith("java")) {
            find(6, tree, "instanceof of the library's");
        }
        return super.visitInstanceOf(tree, nothing);
    }

    @Override
    public Void visitSwitch(SwitchTree tree, Void nothing) {
        lookAtSwitch(tree, tree.getExpression());
        return super.visitSwitch(tree, nothing);
    }

    @Override
    public Void visitSwitchExpression(SwitchExpressionTree tree, Void nothing) {
        lookAtSwitch(tree, tree.getExpression());
        return super.visitSwitchExpression(tree, nothing);
    }

    private void lookAtSwitch(Tree tree, ExpressionTree on) {
        if (trees.getTypeMirror(new TreePath(getCurrentPath(), on)).toString().equals("java.lang.String")) {
            find(10, tree, "a switch on a text");
        }
    }

    @Override
    public Void visitWhileLoop(WhileLoopTree tree, Void nothing) {
        lookAtLoop(tree, tree.getCondition());
        return super.visitWhileLoop(tree, nothing);
    }

    @Override
    public Void visitDoWhileLoop(DoWhileLoopTree tree, Void nothing) {
        lookAtLoop(tree, tree.getCondition());
        return super.visitDoWhileLoop(tree, nothing);
    }

    @Override
    public Void visitForLoop(ForLoopTree tree, Void nothing) {
        lookAtLoop(tree, tree.getCondition());
        return super.visitForLoop(tree, nothing);
    }

    private void lookAtLoop(Tree loop, ExpressionTree condition) {
        ExpressionTree bare = condition;
        while (bare instanceof ParenthesizedTree inner) {
            bare = inner.getExpression();
        }
        if (bare == null || bare instanceof LiteralTree) {
            find(9, loop, "a loop whose end can not be seen");
        }
    }
}
