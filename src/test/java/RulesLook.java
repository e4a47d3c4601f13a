import com.sun.source.tree.*;
import com.sun.source.util.TreePath;
import com.sun.source.util.TreePathScanner;
import com.sun.source.util.Trees;
import java.util.ArrayList;
import java.util.LinkedHashMap;
import java.util.LinkedHashSet;
import java.util.List;
import java.util.Map;
import java.util.Set;
import javax.lang.model.element.Element;
import javax.lang.model.element.ElementKind;
import javax.lang.model.element.ExecutableElement;
import javax.lang.model.element.Modifier;
import javax.lang.model.element.TypeElement;
import javax.lang.model.element.VariableElement;
import javax.lang.model.type.ArrayType;
import javax.lang.model.type.DeclaredType;
import javax.lang.model.type.TypeKind;
import javax.lang.model.type.TypeMirror;

/** Looks through a source that has been compiled for what the rules of ../shared/LANGUAGE.md rule out. */
final class RulesLook extends TreePathScanner<Void, Void> {
    private static final Set<String> THROWN = Set.of("IllegalStateException", "IllegalArgumentException",
        "IndexOutOfBoundsException", "ArithmeticException", "UnsupportedOperationException", "NoSuchElementException",
        "RuntimeException");
    private static final Set<String> TYPES = Set.of("String", "StringBuilder", "Integer", "ArrayList", "List", "Iterator",
        "Iterable", "Comparable");
    private static final Set<String> CALLED = Set.of("String.length", "String.charAt", "String.isEmpty", "String.equals",
        "String.indexOf", "String.substring", "String.toCharArray", "StringBuilder.append", "StringBuilder.charAt",
        "StringBuilder.setCharAt", "StringBuilder.setLength", "StringBuilder.deleteCharAt", "StringBuilder.reverse",
        "StringBuilder.length", "StringBuilder.toString", "ArrayList.add", "ArrayList.get", "ArrayList.set",
        "ArrayList.remove", "ArrayList.size", "ArrayList.isEmpty", "ArrayList.clear", "List.add", "List.get", "List.set",
        "List.remove", "List.size", "List.isEmpty", "List.clear", "List.of", "System.arraycopy", "Arrays.copyOf",
        "Arrays.copyOfRange", "Arrays.fill", "Math.max", "Math.min", "Math.abs", "Math.floorDiv", "Math.floorMod",
        "Integer.compare", "Integer.max", "Integer.min", "Integer.bitCount", "Long.compare", "Long.max", "Long.min",
        "Long.bitCount", "Array.clone", "Object.<init>", "String.<init>", "StringBuilder.<init>", "ArrayList.<init>");
    private static final Set<String> OUTSIDE = Set.of("System.nanoTime", "System.currentTimeMillis", "Math.random");

    private final CompilationUnitTree unit;
    private final Trees trees;
    private final List<String> findings = new ArrayList<>();
    private final Set<String> faceNames = new LinkedHashSet<>();
    private final Set<TypeElement> own = new LinkedHashSet<>();
    /** Of each method those that it calls, with whether each of these calls goes a level deeper. */
    private final Map<ExecutableElement, Map<ExecutableElement, Boolean>> calls = new LinkedHashMap<>();
    private final Set<ExecutableElement> guarded = new LinkedHashSet<>();
    private ExecutableElement method;

    RulesLook(CompilationUnitTree unit, Trees trees) {
        this.unit = unit;
        this.trees = trees;
    }

    List<String> findings() {
        lookAtTheWhole();
        new TreePathScanner<Void, Void>() {
            @Override
            public Void visitClass(ClassTree tree, Void none) {
                own.add((TypeElement) trees.getElement(getCurrentPath()));
                return super.visitClass(tree, none);
            }
        }.scan(unit, null);
        scan(unit, null);
        lookAtRecursion();
        for (ExecutableElement from : calls.keySet()) {
            List<ExecutableElement> longest = longestFrom(from, new LinkedHashSet<>());
            check(longest.size() <= 8 || !from.getModifiers().contains(Modifier.PUBLIC), 11, "calls deeper than eight: " + longest);
        }
        check(own.size() <= 12, 11, "more than twelve classes");
        return findings;
    }

    private void check(boolean holds, int rule, String what) {
        if (!holds) {
            long line = getCurrentPath() == null ? 0
                : unit.getLineMap().getLineNumber(trees.getSourcePositions().getStartPosition(unit, getCurrentPath().getLeaf()));
            findings.add("rule " + rule + ": " + what + " at line " + line);
        }
    }

    private Element elementOf(Tree tree) {
        return trees.getElement(new TreePath(getCurrentPath(), tree));
    }

    private TypeMirror typeOf(Tree tree) {
        return trees.getTypeMirror(new TreePath(getCurrentPath(), tree));
    }

    private boolean isOwn(Element element) {
        return element instanceof TypeElement && own.contains(element);
    }

    // ---- rules 1, 2, 5 and 11: what there is

    private void lookAtTheWhole() {
        check(unit.getPackageName() == null, 1, "a package line");
        check(unit.getTypeDecls().size() == 1, 1, "more than one class in the file");
        ClassTree top = (ClassTree) unit.getTypeDecls().get(0);
        check(top.getModifiers().getFlags().equals(Set.of(Modifier.PUBLIC, Modifier.FINAL)), 1, "not public and final");
        for (Tree member : top.getMembers()) {
            if (member instanceof MethodTree && ((MethodTree) member).getModifiers().getFlags().contains(Modifier.PUBLIC)) {
                faceNames.add(((MethodTree) member).getName().toString());
            }
        }
        faceNames.remove("<init>");
    }

    @Override
    public Void visitClass(ClassTree tree, Void none) {
        TypeElement made = (TypeElement) trees.getElement(getCurrentPath());
        boolean isTop = made.getNestingKind().name().equals("TOP_LEVEL");
        Set<Modifier> flags = made.getModifiers();
        check(isTop || made.getKind() != ElementKind.CLASS || flags.contains(Modifier.STATIC), 2, "not static: " + made);
        check(isTop || !flags.contains(Modifier.PUBLIC) && !flags.contains(Modifier.PROTECTED), 1, "shown: " + made);
        int fields = 0;
        for (Tree member : tree.getMembers()) {
            if (member instanceof VariableTree) {
                Set<Modifier> marks = ((VariableTree) member).getModifiers().getFlags();
                check(!isTop || marks.contains(Modifier.PRIVATE), 1, "a field that is shown: " + member);
                fields += marks.contains(Modifier.STATIC) ? 0 : 1;
                lookAtStatic((VariableTree) member, marks);
            }
            check(!(member instanceof BlockTree) || !((BlockTree) member).isStatic(), 5, "a static block");
        }
        check(fields <= 20, 11, "more than twenty fields: " + made);
        return super.visitClass(tree, none);
    }

    private void lookAtStatic(VariableTree field, Set<Modifier> marks) {
        Element element = elementOf(field);
        if (!marks.contains(Modifier.STATIC) || element.getKind() == ElementKind.ENUM_CONSTANT) {
            return;
        }
        check(marks.contains(Modifier.FINAL), 5, "static and not final: " + field);
        TypeMirror type = element.asType();
        boolean isArray = type.getKind() == TypeKind.ARRAY;
        String name = isArray ? ((ArrayType) type).getComponentType().toString() : type.toString();
        Set<String> allowed = isArray ? Set.of("int", "long", "char", "byte")
            : Set.of("int", "long", "boolean", "char", "java.lang.String");
        check(allowed.contains(name), 5, "a static field of the type " + type);
        check(!isArray || field.getInitializer() instanceof NewArrayTree
            && ((NewArrayTree) field.getInitializer()).getInitializers() != null, 5, "not written out: " + field);
    }

    @Override
    public Void visitMethod(MethodTree tree, Void none) {
        ExecutableElement before = method;
        method = (ExecutableElement) trees.getElement(getCurrentPath());
        calls.put(method, new LinkedHashMap<>());
        boolean isOfTop = ((TypeElement) method.getEnclosingElement()).getNestingKind().name().equals("TOP_LEVEL");
        Set<Modifier> flags = method.getModifiers();
        boolean isMade = tree.getName().contentEquals("<init>");
        check(!isOfTop || isMade || flags.contains(Modifier.PUBLIC) || flags.contains(Modifier.PRIVATE), 1, "shown: " + method);
        check(!flags.contains(Modifier.PRIVATE) || !faceNames.contains(tree.getName().toString()), 1, "a public name: " + method);
        check(tree.getParameters().size() <= 7, 11, "more than seven parameters: " + method);
        long start = trees.getSourcePositions().getStartPosition(unit, tree);
        long end = trees.getSourcePositions().getEndPosition(unit, tree);
        check(end < 0 || unit.getLineMap().getLineNumber(end) - unit.getLineMap().getLineNumber(start) <= 60, 11,
            "more than sixty lines: " + method);
        super.visitMethod(tree, none);
        method = before;
        return null;
    }

    // ---- rules 3 and 4: types and the library

    @Override
    public Void visitVariable(VariableTree tree, Void none) {
        check(isAllowed(trees.getElement(getCurrentPath()).asType(), 0), 3, "a variable of a type that is not allowed: " + tree);
        return super.visitVariable(tree, none);
    }

    private boolean isAllowed(TypeMirror type, int dimensions) {
        if (type.getKind() == TypeKind.ARRAY) {
            return dimensions < 2 && isAllowed(((ArrayType) type).getComponentType(), dimensions + 1);
        }
        if (type.getKind().isPrimitive()) {
            return true;
        }
        if (type.getKind() != TypeKind.DECLARED || dimensions > 1) {
            return false;
        }
        Element element = ((DeclaredType) type).asElement();
        boolean isHere = isOwn(element) || TYPES.contains(element.getSimpleName().toString())
            || THROWN.contains(element.getSimpleName().toString());
        for (TypeMirror of : ((DeclaredType) type).getTypeArguments()) {
            isHere &= of.getKind() == TypeKind.DECLARED
                && (isOwn(((DeclaredType) of).asElement()) || of.toString().equals("java.lang.Integer"));
        }
        return isHere;
    }

    @Override
    public Void visitIdentifier(IdentifierTree tree, Void none) {
        Element element = trees.getElement(getCurrentPath());
        if (element instanceof TypeElement) {
            String name = element.getSimpleName().toString();
            // Exceptions are looked at where they are thrown and caught.
            boolean isThrown = name.endsWith("Exception") || name.endsWith("Error");
            boolean isHere = own.contains(element) || TYPES.contains(name)
                || Set.of("Arrays", "System", "Math", "Long", "Override").contains(name);
            check(isHere || isThrown, name.equals("Object") ? 3 : 4, "a type of the library: " + name);
        }
        return super.visitIdentifier(tree, none);
    }

    @Override
    public Void visitMethodInvocation(MethodInvocationTree tree, Void none) {
        Element element = elementOf(tree.getMethodSelect());
        if (element instanceof ExecutableElement) {
            lookAtCall((ExecutableElement) element, tree.getArguments());
        }
        return super.visitMethodInvocation(tree, none);
    }

    private void lookAtCall(ExecutableElement called, List<? extends ExpressionTree> arguments) {
        TypeElement owner = (TypeElement) called.getEnclosingElement();
        String name = owner.getSimpleName() + "." + called.getSimpleName();
        if (own.contains(owner)) {
            lookAtOwnCall(called, arguments);
            return;
        }
        // What a constructor calls first of all is no line of the source.
        boolean isPlain = CALLED.contains(name) || THROWN.contains(owner.getSimpleName().toString()) && name.endsWith("<init>");
        check(isPlain, OUTSIDE.contains(name) ? 13 : 4, "a call of the library: " + name);
        check(!name.endsWith("getMessage"), 6, "a catch that asks the exception");
    }

    private void lookAtOwnCall(ExecutableElement called, List<? extends ExpressionTree> arguments) {
        boolean isFixed = called.getModifiers().contains(Modifier.PRIVATE) || called.getModifiers().contains(Modifier.STATIC)
            || called.getKind() == ElementKind.CONSTRUCTOR;
        boolean isInConstructor = method != null && method.getKind() == ElementKind.CONSTRUCTOR;
        boolean isOfItself = isInConstructor && method.getEnclosingElement() == called.getEnclosingElement();
        check(!isOfItself || isFixed, 12, "a constructor calls " + called);
        check(!called.getSimpleName().contentEquals("values") || called.getParameters().size() > 0
            || called.getEnclosingElement().getKind() != ElementKind.ENUM || method == null, 12, "values() in a method");
        if (method == null) {
            return;
        }
        boolean isDeeper = false;
        for (ExpressionTree argument : arguments) {
            isDeeper |= argument.toString().equals("depth + 1");
        }
        calls.get(method).merge(called, isDeeper, Boolean::logicalAnd);
    }

    @Override
    public Void visitNewClass(NewClassTree tree, Void none) {
        Element element = trees.getElement(getCurrentPath());
        if (element instanceof ExecutableElement) {
            lookAtCall((ExecutableElement) element, tree.getArguments());
        }
        return super.visitNewClass(tree, none);
    }

    // ---- rules 2, 6 and 10: statements and expressions

    @Override
    public Void visitLambdaExpression(LambdaExpressionTree tree, Void none) {
        check(false, 2, "a lambda");
        return super.visitLambdaExpression(tree, none);
    }

    @Override
    public Void visitMemberReference(MemberReferenceTree tree, Void none) {
        check(false, 2, "a method reference");
        return super.visitMemberReference(tree, none);
    }

    @Override
    public Void visitThrow(ThrowTree tree, Void none) {
        ExpressionTree thrown = tree.getExpression();
        boolean isPlain = thrown instanceof NewClassTree
            && THROWN.contains(((NewClassTree) thrown).getIdentifier().toString())
            && ((NewClassTree) thrown).getClassBody() == null && ((NewClassTree) thrown).getArguments().size() <= 1;
        if (isPlain && ((NewClassTree) thrown).getArguments().size() == 1) {
            isPlain = ((NewClassTree) thrown).getArguments().get(0).getKind() == Tree.Kind.STRING_LITERAL;
        }
        check(isPlain, 6, "a throw of another form: " + tree);
        check(method == null || method.getKind() != ElementKind.CONSTRUCTOR, 6, "a throw in a constructor");
        for (TreePath at = getCurrentPath(); at != null && !(at.getLeaf() instanceof MethodTree); at = at.getParentPath()) {
            check(!(at.getLeaf() instanceof TryTree), 6, "a throw inside a try");
        }
        return super.visitThrow(tree, none);
    }

    @Override
    public Void visitTry(TryTree tree, Void none) {
        check(tree.getFinallyBlock() == null && tree.getResources().isEmpty(), 6, "a try with a finally or resources");
        for (CatchTree caught : tree.getCatches()) {
            check(THROWN.contains(caught.getParameter().getType().toString()), 6, "a catch of " + caught.getParameter());
        }
        return super.visitTry(tree, none);
    }

    @Override
    public Void visitSynchronized(SynchronizedTree tree, Void none) {
        check(false, 6, "synchronized");
        return super.visitSynchronized(tree, none);
    }

    @Override
    public Void visitAssert(AssertTree tree, Void none) {
        check(false, 6, "assert");
        return super.visitAssert(tree, none);
    }

    /** There is none: one that comes has to be looked at by hand, for the test that makes it safe. */
    @Override
    public Void visitTypeCast(TypeCastTree tree, Void none) {
        check(typeOf(tree.getType()).getKind().isPrimitive(), 6, "a cast to an object: " + tree);
        return super.visitTypeCast(tree, none);
    }

    @Override
    public Void visitBinary(BinaryTree tree, Void none) {
        boolean isEquality = tree.getKind() == Tree.Kind.EQUAL_TO || tree.getKind() == Tree.Kind.NOT_EQUAL_TO;
        for (ExpressionTree side : List.of(tree.getLeftOperand(), tree.getRightOperand())) {
            String type = String.valueOf(typeOf(side));
            boolean isText = type.equals("java.lang.String");
            check(!isEquality || !isText && !type.equals("java.lang.Integer"), 6, "compared by ==: " + tree);
            check(tree.getKind() != Tree.Kind.PLUS || !isText, 10, "texts joined by +: " + tree);
        }
        boolean isDivision = tree.getKind() == Tree.Kind.DIVIDE || tree.getKind() == Tree.Kind.REMAINDER;
        check(!isDivision || isConstant(tree.getRightOperand()), 7, "divided by what is no constant: " + tree);
        return super.visitBinary(tree, none);
    }

    @Override
    public Void visitCompoundAssignment(CompoundAssignmentTree tree, Void none) {
        boolean isDivision = tree.getKind() == Tree.Kind.DIVIDE_ASSIGNMENT || tree.getKind() == Tree.Kind.REMAINDER_ASSIGNMENT;
        check(!isDivision || isConstant(tree.getExpression()), 7, "divided by what is no constant: " + tree);
        return super.visitCompoundAssignment(tree, none);
    }

    private boolean isConstant(ExpressionTree tree) {
        Element element = elementOf(tree);
        Object value = element instanceof VariableElement ? ((VariableElement) element).getConstantValue()
            : tree instanceof LiteralTree ? ((LiteralTree) tree).getValue() : null;
        return value instanceof Integer && (Integer) value != 0;
    }

    // ---- rules 9 and 12: loops and constructors

    @Override
    public Void visitForLoop(ForLoopTree tree, Void none) {
        boolean isCounted = false;
        for (ExpressionStatementTree update : tree.getUpdate()) {
            String counter = update.getExpression().toString().replaceAll("^\\+\\+|\\+\\+$|^--|--$", "");
            isCounted |= isBounded(tree.getCondition(), counter) && update.getExpression() instanceof UnaryTree;
        }
        check(isCounted, 9, "a for without a counter and its bound");
        return super.visitForLoop(tree, none);
    }

    @Override
    public Void visitWhileLoop(WhileLoopTree tree, Void none) {
        check(countsUp(tree.getCondition(), tree.getStatement()), 9, "a while without a counter and its bound");
        return super.visitWhileLoop(tree, none);
    }

    @Override
    public Void visitDoWhileLoop(DoWhileLoopTree tree, Void none) {
        check(countsUp(tree.getCondition(), tree.getStatement()), 9, "a do without a counter and its bound");
        return super.visitDoWhileLoop(tree, none);
    }

    /** Tells whether a counter in the condition goes up in a line of the body itself. */
    private static boolean countsUp(ExpressionTree condition, StatementTree body) {
        boolean isCounted = false;
        if (body instanceof BlockTree) {
            for (StatementTree line : ((BlockTree) body).getStatements()) {
                String text = line.toString().trim();
                isCounted |= text.endsWith("++;") && isBounded(condition, text.substring(0, text.length() - 3));
            }
        }
        return isCounted;
    }

    /** Tells whether a condition, or one of those that it joins by &&, compares a counter by < or >=. */
    private static boolean isBounded(ExpressionTree condition, String counter) {
        if (condition instanceof ParenthesizedTree) {
            return isBounded(((ParenthesizedTree) condition).getExpression(), counter);
        }
        if (!(condition instanceof BinaryTree)) {
            return false;
        }
        BinaryTree both = (BinaryTree) condition;
        if (both.getKind() == Tree.Kind.CONDITIONAL_AND) {
            return isBounded(both.getLeftOperand(), counter) || isBounded(both.getRightOperand(), counter);
        }
        boolean isComparison = Set.of(Tree.Kind.LESS_THAN, Tree.Kind.LESS_THAN_EQUAL, Tree.Kind.GREATER_THAN_EQUAL,
            Tree.Kind.GREATER_THAN).contains(both.getKind());
        return isComparison && List.of(both.getLeftOperand().toString().split(" \\+ ")).contains(counter);
    }

    @Override
    public Void visitEnhancedForLoop(EnhancedForLoopTree tree, Void none) {
        check(typeOf(tree.getExpression()).getKind() == TypeKind.ARRAY, 12, "a list is gone through by an iterator");
        return super.visitEnhancedForLoop(tree, none);
    }

    @Override
    public Void scan(Tree tree, Void none) {
        boolean isThis = tree instanceof IdentifierTree && tree.toString().equals("this");
        if (isThis && method != null && method.getKind() == ElementKind.CONSTRUCTOR) {
            check(getCurrentPath().getLeaf() instanceof MemberSelectTree, 12, "a constructor hands out its object");
        }
        // A comparison with a constant is what guards the depth of a recursion.
        if (tree instanceof BinaryTree && tree.getKind() == Tree.Kind.GREATER_THAN && method != null) {
            BinaryTree both = (BinaryTree) tree;
            if (both.getLeftOperand().toString().equals("depth") && isConstant(both.getRightOperand())) {
                guarded.add(method);
            }
        }
        return super.scan(tree, none);
    }

    // ---- rules 8 and 11: calls of calls

    private void lookAtRecursion() {
        for (ExecutableElement from : calls.keySet()) {
            Set<ExecutableElement> group = new LinkedHashSet<>();
            for (ExecutableElement other : reachedFrom(from, false)) {
                if (reachedFrom(other, false).contains(from)) {
                    group.add(other);
                }
            }
            if (group.contains(from)) {
                check(from.getModifiers().contains(Modifier.PRIVATE), 8, "calls itself, and is not private: " + from);
                check(group.stream().anyMatch(guarded::contains), 8, "no guard on the depth: " + from);
                check(!reachedFrom(from, true).contains(from), 8, "calls itself without going deeper: " + from);
            }
        }
    }

    /** All that a method calls, and what these call, and so on; where it is asked for, by calls that go no deeper. */
    private Set<ExecutableElement> reachedFrom(ExecutableElement from, boolean isLevel) {
        Set<ExecutableElement> reached = new LinkedHashSet<>();
        List<ExecutableElement> open = new ArrayList<>(List.of(from));
        while (!open.isEmpty()) {
            Map<ExecutableElement, Boolean> called = calls.getOrDefault(open.remove(open.size() - 1), Map.of());
            for (Map.Entry<ExecutableElement, Boolean> call : called.entrySet()) {
                if (!(isLevel && call.getValue()) && reached.add(call.getKey())) {
                    open.add(call.getKey());
                }
            }
        }
        return reached;
    }

    /** The longest row of calls in which no method comes twice. */
    private List<ExecutableElement> longestFrom(ExecutableElement from, Set<ExecutableElement> above) {
        above.add(from);
        List<ExecutableElement> longest = List.of();
        for (ExecutableElement called : calls.getOrDefault(from, Map.of()).keySet()) {
            if (!above.contains(called)) {
                List<ExecutableElement> row = longestFrom(called, above);
                longest = row.size() > longest.size() ? row : longest;
            }
        }
        above.remove(from);
        List<ExecutableElement> all = new ArrayList<>(List.of(from));
        all.addAll(longest);
        return all;
    }
}
