import com.sun.source.tree.AssertTree;
import com.sun.source.tree.BinaryTree;
import com.sun.source.tree.BlockTree;
import com.sun.source.tree.ClassTree;
import com.sun.source.tree.CompilationUnitTree;
import com.sun.source.tree.CompoundAssignmentTree;
import com.sun.source.tree.DoWhileLoopTree;
import com.sun.source.tree.ExpressionTree;
import com.sun.source.tree.ForLoopTree;
import com.sun.source.tree.InstanceOfTree;
import com.sun.source.tree.LambdaExpressionTree;
import com.sun.source.tree.LiteralTree;
import com.sun.source.tree.MemberReferenceTree;
import com.sun.source.tree.MethodInvocationTree;
import com.sun.source.tree.MethodTree;
import com.sun.source.tree.NewClassTree;
import com.sun.source.tree.SynchronizedTree;
import com.sun.source.tree.ThrowTree;
import com.sun.source.tree.Tree;
import com.sun.source.tree.TryTree;
import com.sun.source.tree.TypeCastTree;
import com.sun.source.tree.VariableTree;
import com.sun.source.tree.WhileLoopTree;
import com.sun.source.util.TreePath;
import com.sun.source.util.TreePathScanner;
import com.sun.source.util.Trees;
import java.util.HashMap;
import java.util.HashSet;
import java.util.List;
import java.util.Map;
import java.util.Set;
import javax.lang.model.element.Element;
import javax.lang.model.element.ElementKind;
import javax.lang.model.element.ExecutableElement;
import javax.lang.model.element.Modifier;
import javax.lang.model.element.TypeElement;
import javax.lang.model.element.VariableElement;
import javax.lang.model.type.ArrayType;
import javax.lang.model.type.DeclaredType;
import javax.lang.model.type.TypeKind;
import javax.lang.model.type.TypeMirror;

/** Walks through the text of the class and holds it against ../shared/LANGUAGE.md. */
final class Rules extends TreePathScanner<Void, Void> {
    private static final String CLASS = "Namebearers";
    private static final Map<String, Set<String>> LIBRARY = Map.of(
            "java.lang.String", Set.of("length", "charAt", "isEmpty", "equals", "indexOf", "substring", "toCharArray"),
            "java.lang.StringBuilder", Set.of("append", "charAt", "setCharAt", "setLength", "deleteCharAt", "reverse",
                    "length", "toString"),
            "java.util.ArrayList", Set.of("add", "get", "set", "remove", "size", "isEmpty", "clear"),
            "java.lang.Integer", Set.of("compare", "max", "min", "bitCount"),
            "java.lang.Long", Set.of("compare", "max", "min", "bitCount"),
            "java.lang.Math", Set.of("abs", "max", "min", "floorDiv", "floorMod"),
            "java.lang.System", Set.of("arraycopy"),
            "java.util.Arrays", Set.of("copyOf", "copyOfRange", "fill"));
    private static final Set<String> APPENDED = Set.of("char", "java.lang.String", "int");
    private static final Set<String> EXCEPTIONS = Set.of("IllegalStateException", "IllegalArgumentException",
            "IndexOutOfBoundsException", "ArithmeticException", "UnsupportedOperationException",
            "NoSuchElementException", "RuntimeException");
    private static final Set<TypeKind> OF_CONSTANTS =
            Set.of(TypeKind.INT, TypeKind.LONG, TypeKind.BOOLEAN, TypeKind.CHAR);
    private static final Set<Tree.Kind> ON_DOUBLES = Set.of(Tree.Kind.PLUS, Tree.Kind.MINUS, Tree.Kind.MULTIPLY,
            Tree.Kind.DIVIDE, Tree.Kind.LESS_THAN, Tree.Kind.LESS_THAN_EQUAL, Tree.Kind.GREATER_THAN,
            Tree.Kind.GREATER_THAN_EQUAL, Tree.Kind.EQUAL_TO, Tree.Kind.NOT_EQUAL_TO);
    private static final int MOST_CLASSES = 12;
    private static final int MOST_FIELDS = 20;
    private static final int MOST_LINES = 60;
    private static final int MOST_PARAMETERS = 7;
    private static final int DEEPEST_CALLS = 8;

    private final Trees trees;
    private final CompilationUnitTree unit;
    private final Set<String> publicNames = new HashSet<>();
    private final Set<String> otherNames = new HashSet<>();
    private final Map<Element, Set<Element>> calls = new HashMap<>();
    private int classes = 0;

    Rules(Trees trees, CompilationUnitTree unit) {
        this.trees = trees;
        this.unit = unit;
    }

    void finish() {
        holds(11, "some twelve classes, not " + classes, classes <= MOST_CLASSES);
        for (String name : otherNames) {
            holds(1, "a method of its own is named " + name + " as one of the face", !publicNames.contains(name));
        }
        for (Element method : calls.keySet()) {
            int depth = depthFrom(method, new HashSet<>());
            holds(11, method + " begins " + depth + " calls inside one another", depth <= DEEPEST_CALLS);
        }
    }

    private int depthFrom(Element method, Set<Element> open) {
        boolean isNew = open.add(method);
        holds(8, method + " calls itself", isNew);
        int deepest = 0;
        for (Element called : isNew ? calls.getOrDefault(method, Set.of()) : Set.<Element>of()) {
            deepest = Math.max(deepest, depthFrom(called, open));
        }
        open.remove(method);
        return deepest + 1;
    }

    private void holds(int rule, String what, boolean isSo) {
        Check.promise(0, "rule " + rule);
        Check.isTrue(what, isSo);
    }

    private void never(int rule, Tree tree) {
        Check.promise(0, "rule " + rule);
        Check.fail("line " + lineOf(trees.getSourcePositions().getStartPosition(unit, tree)) + ": " + tree);
    }

    private long lineOf(long position) {
        return unit.getLineMap().getLineNumber(position);
    }

    private Element element() {
        return trees.getElement(getCurrentPath());
    }

    private TypeMirror typeOf(Tree part) {
        return trees.getTypeMirror(new TreePath(getCurrentPath(), part));
    }

    private static boolean isOwn(Element element) {
        Element outer = element;
        while (outer.getEnclosingElement() != null && outer.getEnclosingElement().getKind() != ElementKind.PACKAGE) {
            outer = outer.getEnclosingElement();
        }
        return outer.getSimpleName().contentEquals(CLASS);
    }

    private static String nameOf(TypeMirror type) {
        return type.getKind() == TypeKind.DECLARED
                ? ((TypeElement) ((DeclaredType) type).asElement()).getQualifiedName().toString() : type.toString();
    }

    // ---- types

    private static boolean isAllowed(TypeMirror type) {
        if (type.getKind().isPrimitive() || type.getKind() == TypeKind.VOID) {
            return true;
        }
        if (type.getKind() == TypeKind.ARRAY) {
            return isAllowedElement(((ArrayType) type).getComponentType());
        }
        if (type.getKind() != TypeKind.DECLARED) {
            return false;
        }
        String name = nameOf(type);
        List<? extends TypeMirror> parts = ((DeclaredType) type).getTypeArguments();
        if (name.equals("java.util.ArrayList") || name.equals("java.util.List")) {
            return parts.size() == 1 && (isOwnType(parts.get(0)) || nameOf(parts.get(0)).equals("java.lang.Integer"));
        }
        return isOwnType(type) || name.equals("java.lang.String") || name.equals("java.lang.StringBuilder");
    }

    private static boolean isOwnType(TypeMirror type) {
        return type.getKind() == TypeKind.DECLARED && isOwn(((DeclaredType) type).asElement());
    }

    private static boolean isAllowedElement(TypeMirror type) {
        boolean isRowOfNumbers = type.getKind() == TypeKind.ARRAY
                && ((ArrayType) type).getComponentType().getKind().isPrimitive();
        return type.getKind().isPrimitive() || isOwnType(type) || isRowOfNumbers;
    }

    private static boolean isDouble(TypeMirror type) {
        return type != null && (type.getKind() == TypeKind.DOUBLE || type.getKind() == TypeKind.FLOAT);
    }

    private static boolean isText(TypeMirror type) {
        return type != null && nameOf(type).equals("java.lang.String");
    }

    // ---- classes and members

    @Override
    public Void visitClass(ClassTree tree, Void nothing) {
        classes++;
        TypeElement type = (TypeElement) element();
        Set<Modifier> modifiers = type.getModifiers();
        boolean isOuter = type.getSimpleName().contentEquals(CLASS);
        if (isOuter) {
            holds(1, "the class is public and final", modifiers.containsAll(Set.of(Modifier.PUBLIC, Modifier.FINAL)));
        } else {
            holds(1, type + " is static, and not public",
                    modifiers.contains(Modifier.STATIC) && !modifiers.contains(Modifier.PUBLIC));
            holds(2, type + " stands in the class itself", type.getNestingKind().isNested()
                    && type.getEnclosingElement().getKind() == ElementKind.CLASS);
            holds(6, type + " is no exception", nameOf(type.getSuperclass()).equals("java.lang.Object"));
        }
        int fields = 0;
        for (Element member : type.getEnclosedElements()) {
            boolean isField = member.getKind() == ElementKind.FIELD;
            boolean isStatic = member.getModifiers().contains(Modifier.STATIC);
            fields += isField && !isStatic ? 1 : 0;
            boolean isInner = member.getKind().isClass() || member.getKind().isInterface();
            boolean isOpen = isOuter && member.getModifiers().contains(Modifier.PUBLIC) && !isField;
            holds(1, type + " keeps " + member + " private",
                    isInner || isOpen || member.getModifiers().contains(Modifier.PRIVATE));
        }
        holds(11, type + " has some twenty fields, not " + fields, fields <= MOST_FIELDS);
        return super.visitClass(tree, nothing);
    }

    @Override
    public Void visitMethod(MethodTree tree, Void nothing) {
        ExecutableElement method = (ExecutableElement) element();
        long start = trees.getSourcePositions().getStartPosition(unit, tree);
        long lines = lineOf(trees.getSourcePositions().getEndPosition(unit, tree)) - lineOf(start) + 1;
        String name = method.getSimpleName().toString();
        holds(11, name + " has " + lines + " lines", lines <= MOST_LINES);
        holds(11, name + " has " + tree.getParameters().size() + " parameters",
                tree.getParameters().size() <= MOST_PARAMETERS);
        holds(3, name + " answers " + method.getReturnType(), isAllowed(method.getReturnType()));
        holds(6, name + " stands in for one of Object", !Set.of("equals", "hashCode", "toString").contains(name));
        if (method.getKind() == ElementKind.METHOD) {
            boolean isOfFace = method.getModifiers().contains(Modifier.PUBLIC);
            (isOfFace ? publicNames : otherNames).add(name);
        }
        return super.visitMethod(tree, nothing);
    }

    @Override
    public Void visitVariable(VariableTree tree, Void nothing) {
        VariableElement variable = (VariableElement) element();
        holds(3, variable + " is of " + variable.asType(), isAllowed(variable.asType()));
        if (variable.getModifiers().contains(Modifier.STATIC)) {
            boolean isConstant = OF_CONSTANTS.contains(variable.asType().getKind()) || isText(variable.asType());
            holds(5, variable + " is a constant", isConstant && variable.getModifiers().contains(Modifier.FINAL));
        }
        return super.visitVariable(tree, nothing);
    }

    @Override
    public Void visitBlock(BlockTree tree, Void nothing) {
        if (getCurrentPath().getParentPath().getLeaf() instanceof ClassTree) {
            never(5, tree);
        }
        return super.visitBlock(tree, nothing);
    }

    // ---- calls

    @Override
    public Void visitMethodInvocation(MethodInvocationTree tree, Void nothing) {
        ExecutableElement called = (ExecutableElement) element();
        if (isOwn(called)) {
            noteCall(called);
        } else if (!called.getSimpleName().contentEquals("<init>")) {
            // What a StringBuilder inherits is declared in a class that is no part of the library's own face.
            String declared = ((TypeElement) called.getEnclosingElement()).getQualifiedName().toString();
            String owner = declared.replace(".AbstractStringBuilder", ".StringBuilder");
            String name = called.getSimpleName().toString();
            holds(4, "the library has " + owner + "." + called,
                    LIBRARY.getOrDefault(owner, Set.of()).contains(name) && areArgumentsAllowed(tree, owner, name));
        }
        return super.visitMethodInvocation(tree, nothing);
    }

    private boolean areArgumentsAllowed(MethodInvocationTree tree, String owner, String name) {
        for (ExpressionTree argument : tree.getArguments()) {
            TypeMirror type = typeOf(argument);
            boolean isAppended = !name.equals("append") || APPENDED.contains(type.toString());
            boolean isSign = !name.equals("indexOf") || type.getKind() == TypeKind.CHAR;
            boolean isNumber = !owner.equals("java.lang.Math") || !isDouble(type);
            boolean isIndex = !name.equals("remove") || type.getKind() == TypeKind.INT;
            if (!isAppended || !isSign || !isNumber || !isIndex) {
                return false;
            }
        }
        return !name.equals("append") && !name.equals("indexOf") || tree.getArguments().size() == 1;
    }

    @Override
    public Void visitNewClass(NewClassTree tree, Void nothing) {
        Element constructor = element();
        String name = tree.getIdentifier().toString();
        if (tree.getClassBody() != null) {
            never(2, tree);
        } else if (isOwn(constructor)) {
            noteCall(constructor);
        } else if (EXCEPTIONS.contains(name)) {
            holds(6, tree + " stands behind throw", getCurrentPath().getParentPath().getLeaf() instanceof ThrowTree);
        } else {
            boolean isList = name.startsWith("ArrayList<") && isAllowed(typeOf(tree));
            holds(4, "the library has " + tree, (isList || name.equals("StringBuilder")) && tree.getArguments().isEmpty());
        }
        return super.visitNewClass(tree, nothing);
    }

    private void noteCall(Element called) {
        Element caller = trees.getElement(pathOfMethod());
        calls.computeIfAbsent(caller, key -> new HashSet<>()).add(called);
    }

    /** A field with an initialiser counts as its class. */
    private TreePath pathOfMethod() {
        TreePath path = getCurrentPath();
        while (!(path.getLeaf() instanceof MethodTree) && !(path.getLeaf() instanceof ClassTree)) {
            path = path.getParentPath();
        }
        return path;
    }

    @Override
    public Void visitThrow(ThrowTree tree, Void nothing) {
        boolean isWritten = tree.getExpression() instanceof NewClassTree;
        if (isWritten) {
            NewClassTree thrown = (NewClassTree) tree.getExpression();
            List<? extends ExpressionTree> texts = thrown.getArguments();
            isWritten = EXCEPTIONS.contains(thrown.getIdentifier().toString())
                    && (texts.isEmpty() || (texts.size() == 1 && texts.get(0).getKind() == Tree.Kind.STRING_LITERAL));
        }
        Element method = trees.getElement(pathOfMethod());
        if (!isWritten || method.getKind() != ElementKind.METHOD) {
            never(6, tree);
        }
        return super.visitThrow(tree, nothing);
    }

    // ---- what a method is written in

    @Override
    public Void visitLiteral(LiteralTree tree, Void nothing) {
        if (tree.getValue() instanceof Character && (char) tree.getValue() > 255) {
            never(3, tree);
        }
        boolean isText = tree.getValue() instanceof String;
        if (isText && !((String) tree.getValue()).chars().allMatch(sign -> sign >= 1 && sign <= 127)) {
            never(4, tree);
        }
        return super.visitLiteral(tree, nothing);
    }

    @Override
    public Void visitBinary(BinaryTree tree, Void nothing) {
        TypeMirror left = typeOf(tree.getLeftOperand());
        TypeMirror right = typeOf(tree.getRightOperand());
        if ((isDouble(left) || isDouble(right)) && !ON_DOUBLES.contains(tree.getKind())) {
            never(3, tree);
        }
        if (tree.getKind() == Tree.Kind.PLUS && (isText(left) || isText(right))) {
            never(10, tree);
        }
        boolean isSame = tree.getKind() == Tree.Kind.EQUAL_TO || tree.getKind() == Tree.Kind.NOT_EQUAL_TO;
        if (isSame && (isTextOrInteger(left) || isTextOrInteger(right))) {
            never(6, tree);
        }
        return super.visitBinary(tree, nothing);
    }

    private static boolean isTextOrInteger(TypeMirror type) {
        return isText(type) || nameOf(type).equals("java.lang.Integer");
    }

    @Override
    public Void visitCompoundAssignment(CompoundAssignmentTree tree, Void nothing) {
        if (isText(typeOf(tree.getVariable())) || isDouble(typeOf(tree.getVariable()))) {
            never(10, tree);
        }
        return super.visitCompoundAssignment(tree, nothing);
    }

    @Override
    public Void visitForLoop(ForLoopTree tree, Void nothing) {
        holds(9, "a loop has an end and goes towards it: " + tree.getCondition(),
                tree.getCondition() != null && !tree.getUpdate().isEmpty());
        return super.visitForLoop(tree, nothing);
    }

    @Override
    public Void visitWhileLoop(WhileLoopTree tree, Void nothing) {
        never(9, tree);
        return super.visitWhileLoop(tree, nothing);
    }

    @Override
    public Void visitDoWhileLoop(DoWhileLoopTree tree, Void nothing) {
        never(9, tree);
        return super.visitDoWhileLoop(tree, nothing);
    }

    @Override
    public Void visitTypeCast(TypeCastTree tree, Void nothing) {
        holds(6, tree + " is a cast of a number", typeOf(tree.getType()).getKind().isPrimitive());
        return super.visitTypeCast(tree, nothing);
    }

    @Override
    public Void visitInstanceOf(InstanceOfTree tree, Void nothing) {
        never(6, tree);
        return super.visitInstanceOf(tree, nothing);
    }

    @Override
    public Void visitLambdaExpression(LambdaExpressionTree tree, Void nothing) {
        never(2, tree);
        return super.visitLambdaExpression(tree, nothing);
    }

    @Override
    public Void visitMemberReference(MemberReferenceTree tree, Void nothing) {
        never(2, tree);
        return super.visitMemberReference(tree, nothing);
    }

    @Override
    public Void visitTry(TryTree tree, Void nothing) {
        never(6, tree);
        return super.visitTry(tree, nothing);
    }

    @Override
    public Void visitSynchronized(SynchronizedTree tree, Void nothing) {
        never(6, tree);
        return super.visitSynchronized(tree, nothing);
    }

    @Override
    public Void visitAssert(AssertTree tree, Void nothing) {
        never(6, tree);
        return super.visitAssert(tree, nothing);
    }
}
