import com.sun.source.tree.AssertTree;
import com.sun.source.tree.AssignmentTree;
import com.sun.source.tree.BinaryTree;
import com.sun.source.tree.ClassTree;
import com.sun.source.tree.CompilationUnitTree;
import com.sun.source.tree.CompoundAssignmentTree;
import com.sun.source.tree.DoWhileLoopTree;
import com.sun.source.tree.EnhancedForLoopTree;
import com.sun.source.tree.ExpressionTree;
import com.sun.source.tree.ForLoopTree;
import com.sun.source.tree.InstanceOfTree;
import com.sun.source.tree.LambdaExpressionTree;
import com.sun.source.tree.LiteralTree;
import com.sun.source.tree.MemberReferenceTree;
import com.sun.source.tree.MethodInvocationTree;
import com.sun.source.tree.MethodTree;
import com.sun.source.tree.NewArrayTree;
import com.sun.source.tree.NewClassTree;
import com.sun.source.tree.ParenthesizedTree;
import com.sun.source.tree.SynchronizedTree;
import com.sun.source.tree.ThrowTree;
import com.sun.source.tree.Tree;
import com.sun.source.tree.Tree.Kind;
import com.sun.source.tree.TryTree;
import com.sun.source.tree.TypeCastTree;
import com.sun.source.tree.UnaryTree;
import com.sun.source.tree.VariableTree;
import com.sun.source.tree.WhileLoopTree;
import com.sun.source.util.TreePath;
import com.sun.source.util.TreePathScanner;
import com.sun.source.util.TreeScanner;
import com.sun.source.util.Trees;
import java.io.IOException;
import java.nio.file.Path;
import java.util.ArrayList;
import java.util.HashSet;
import java.util.LinkedHashMap;
import java.util.LinkedHashSet;
import java.util.List;
import java.util.Map;
import java.util.Set;
import javax.lang.model.element.Element;
import javax.lang.model.element.ElementKind;
import javax.lang.model.element.ExecutableElement;
import javax.lang.model.element.Modifier;
import javax.lang.model.element.VariableElement;
import javax.lang.model.type.ArrayType;
import javax.lang.model.type.DeclaredType;
import javax.lang.model.type.TypeKind;
import javax.lang.model.type.TypeMirror;
import javax.lang.model.util.ElementFilter;

/**
 * Tells where a source leaves what ../shared/LANGUAGE.md allows, by the rule's number. It is stricter than the rules
 * where the class needs no more: no try, no while, no recursion, no casts among objects, no ArrayList. It does not see
 * whether an index is looked at before it is used, nor whether a loop's bound stays as it is.
 */
final class LanguageRules extends TreePathScanner<Void, Void> {
    private static final int MOST_PARAMETERS = 7;
    private static final int MOST_LINES = 60;
    private static final int MOST_DEEP = 8;
    private static final int MOST_CLASSES = 12;
    private static final int MOST_FIELDS = 20;

    private static final Set<String> THROWN = Set.of("java.lang.IllegalStateException",
            "java.lang.IllegalArgumentException", "java.lang.IndexOutOfBoundsException", "java.lang.ArithmeticException",
            "java.lang.UnsupportedOperationException", "java.util.NoSuchElementException", "java.lang.RuntimeException");
    private static final Set<String> OF_NUMBERS = Set.of("java.lang.Integer", "java.lang.Long", "java.lang.Math");
    private static final Set<String> OF_ALL_OBJECTS = Set.of("equals", "hashCode", "toString");
    private static final Set<String> STATIC_TYPES = Set.of("int", "long", "boolean", "char", "java.lang.String",
            "int[]", "long[]", "char[]", "byte[]");

    private final CompilationUnitTree unit;
    private final Trees trees;
    private final List<String> complaints = new ArrayList<>();
    private final Map<Element, Set<Element>> calls = new LinkedHashMap<>();
    private final Set<String> publicNames = new HashSet<>();
    private final Set<String> otherNames = new HashSet<>();
    private int classes;
    private int loops;

    private LanguageRules(CompilationUnitTree unit, Trees trees) {
        this.unit = unit;
        this.trees = trees;
    }

    static List<String> complaints(String name, String source) {
        // Nothing is written there: the source is looked at, not compiled to the end.
        Compiled compiled = new Compiled(name, source, Path.of("build"));
        try {
            CompilationUnitTree unit = compiled.task().parse().iterator().next();
            compiled.task().analyze();
            if (!compiled.errors().isEmpty()) {
                return List.of("does not compile: " + compiled.errors());
            }
            LanguageRules rules = new LanguageRules(unit, Trees.instance(compiled.task()));
            rules.look();
            return rules.complaints;
        } catch (IOException e) {
            throw new Error(e);
        }
    }

    private void look() {
        if (unit.getPackageName() != null || unit.getTypeDecls().size() != 1) {
            complain(1, unit, "a package line, or not just one class");
        }
        scan(unit, null);
        otherNames.retainAll(publicNames);
        complainIf(1, unit, "a public method's name used again: " + otherNames, !otherNames.isEmpty());
        complainIf(11, unit, classes + " classes", classes > MOST_CLASSES);
        for (Element method : calls.keySet()) {
            if (depthOf(method, new HashSet<>()) > MOST_DEEP) {
                complain(11, unit, method + " leads more than eight deep, or to itself");
            }
        }
    }

    /** What comes to itself again counts as deeper than anything that is allowed. */
    private int depthOf(Element method, Set<Element> open) {
        if (!open.add(method)) {
            return MOST_DEEP;
        }
        int deepest = 0;
        for (Element called : calls.getOrDefault(method, Set.of())) {
            deepest = Math.max(deepest, depthOf(called, open));
        }
        open.remove(method);
        return deepest + 1;
    }

    // ---- classes, fields and methods

    @Override
    public Void visitClass(ClassTree tree, Void none) {
        classes++;
        complainIf(2, tree, "a local class", getCurrentPath().getParentPath().getLeaf().getKind() == Kind.BLOCK);
        int fields = 0;
        for (Tree member : tree.getMembers()) {
            complainIf(5, member, "an initialiser block", member.getKind() == Kind.BLOCK);
            if (member instanceof VariableTree field && !field.getModifiers().getFlags().contains(Modifier.STATIC)) {
                fields++;
            }
        }
        complainIf(11, tree, fields + " fields", fields > MOST_FIELDS);
        return super.visitClass(tree, none);
    }

    @Override
    public Void visitVariable(VariableTree tree, Void none) {
        Element variable = elementHere();
        checkType(tree, variable.asType());
        if (variable.getModifiers().contains(Modifier.STATIC)) {
            boolean row = tree.getInitializer() instanceof NewArrayTree array && array.getInitializers() != null;
            boolean constant = row || ((VariableElement) variable).getConstantValue() != null;
            boolean allowed = constant && STATIC_TYPES.contains(variable.asType().toString());
            complainIf(5, tree, "a static field that is no constant", !allowed);
        }
        return super.visitVariable(tree, none);
    }

    @Override
    public Void visitMethod(MethodTree tree, Void none) {
        ExecutableElement method = (ExecutableElement) elementHere();
        calls.computeIfAbsent(method, itself -> new LinkedHashSet<>());
        if (method.getKind() == ElementKind.METHOD) {
            boolean ofTheFace = method.getModifiers().contains(Modifier.PUBLIC);
            (ofTheFace ? publicNames : otherNames).add(tree.getName().toString());
        }
        checkType(tree, method.getReturnType());
        complainIf(11, tree, "more than seven parameters", tree.getParameters().size() > MOST_PARAMETERS);
        complainIf(11, tree, "more than sixty lines", lastLineOf(tree) - lineOf(tree) >= MOST_LINES);
        complainIf(6, tree, "of all objects", OF_ALL_OBJECTS.contains(tree.getName().toString()));
        complainIf(6, tree, "synchronized", method.getModifiers().contains(Modifier.SYNCHRONIZED));
        return super.visitMethod(tree, none);
    }

    private void checkType(Tree tree, TypeMirror type) {
        TypeMirror inner = type;
        int dimensions = 0;
        while (inner.getKind() == TypeKind.ARRAY) {
            inner = ((ArrayType) inner).getComponentType();
            dimensions++;
        }
        boolean number = inner.getKind().isPrimitive() && inner.getKind() != TypeKind.BOOLEAN;
        boolean text = dimensions == 0 && inner.toString().matches("java.lang.String(Builder)?");
        boolean known = inner.getKind().isPrimitive() || inner.getKind() == TypeKind.VOID || isOwn(inner) || text;
        complainIf(3, tree, "the type " + type, !known || dimensions > (number ? 2 : 1));
    }

    private boolean isOwn(TypeMirror type) {
        return type instanceof DeclaredType declared && isOwn(declared.asElement());
    }

    private boolean isOwn(Element element) {
        return trees.getPath(element) != null;
    }

    // ---- calls and what is made

    @Override
    public Void visitMethodInvocation(MethodInvocationTree tree, Void none) {
        ExecutableElement called = (ExecutableElement) trees.getElement(getCurrentPath());
        boolean ofObject = called.getEnclosingElement().toString().equals("java.lang.Object")
                && called.getKind() == ElementKind.CONSTRUCTOR;
        if (!ofObject) {
            addCall(called);
            complainIf(4, tree, "the call of " + called, !isOwn(called.getEnclosingElement()) && !isLibrary(called));
        }
        return super.visitMethodInvocation(tree, none);
    }

    /** Of all that rule 4 lists, this is what the class uses; where it needs more, more has to stand here. */
    private static boolean isLibrary(ExecutableElement called) {
        String owner = called.getEnclosingElement().toString();
        if (OF_NUMBERS.contains(owner)) {
            boolean wholeNumbers = true;
            for (VariableElement parameter : called.getParameters()) {
                TypeKind kind = parameter.asType().getKind();
                wholeNumbers &= kind == TypeKind.INT || kind == TypeKind.LONG;
            }
            return wholeNumbers && called.getModifiers().contains(Modifier.STATIC)
                    && called.getReturnType().getKind().isPrimitive()
                    && !called.getSimpleName().toString().endsWith("Exact");
        }
        return owner.equals("java.lang.System") && called.getSimpleName().contentEquals("arraycopy");
    }

    @Override
    public Void visitNewClass(NewClassTree tree, Void none) {
        Element constructor = trees.getElement(getCurrentPath());
        TypeMirror made = trees.getTypeMirror(getCurrentPath());
        addCall(constructor);
        complainIf(4, tree, "an object of " + made, !isOwn(made) && !THROWN.contains(made.toString()));
        complainIf(12, tree, "an object made in a loop", loops > 0 && !isInConstructor());
        return super.visitNewClass(tree, none);
    }

    @Override
    public Void visitNewArray(NewArrayTree tree, Void none) {
        complainIf(12, tree, "an array made in a loop", loops > 0 && !isInConstructor());
        for (ExpressionTree length : tree.getDimensions()) {
            complainIf(7, tree, "an array of a length that is no constant", !isConstant(length));
        }
        return super.visitNewArray(tree, none);
    }

    /** What a field begins with is made by each constructor of its class. */
    private void addCall(Element called) {
        TreePath path = getCurrentPath();
        while (path.getLeaf().getKind() != Kind.METHOD && !(path.getLeaf() instanceof ClassTree)) {
            path = path.getParentPath();
        }
        Element caller = trees.getElement(path);
        List<Element> callers = new ArrayList<>(List.of(caller));
        if (caller.getKind().isClass()) {
            callers = new ArrayList<>(ElementFilter.constructorsIn(caller.getEnclosedElements()));
        }
        for (Element one : callers) {
            calls.computeIfAbsent(one, itself -> new LinkedHashSet<>()).add(called);
        }
    }

    // ---- exceptions

    @Override
    public Void visitThrow(ThrowTree tree, Void none) {
        boolean plain = tree.getExpression() instanceof NewClassTree made && made.getClassBody() == null
                && THROWN.contains(trees.getTypeMirror(new TreePath(getCurrentPath(), made)).toString())
                && (made.getArguments().isEmpty() || made.getArguments().get(0).getKind() == Kind.STRING_LITERAL);
        complainIf(6, tree, "a throw of another form", !plain);
        complainIf(6, tree, "a throw in a constructor", isInConstructor());
        return super.visitThrow(tree, none);
    }

    @Override
    public Void visitTry(TryTree tree, Void none) {
        complain(6, tree, "a try");
        return super.visitTry(tree, none);
    }

    @Override
    public Void visitSynchronized(SynchronizedTree tree, Void none) {
        complain(6, tree, "synchronized");
        return super.visitSynchronized(tree, none);
    }

    @Override
    public Void visitAssert(AssertTree tree, Void none) {
        complain(6, tree, "an assert");
        return super.visitAssert(tree, none);
    }

    @Override
    public Void visitTypeCast(TypeCastTree tree, Void none) {
        boolean ofNumbers = trees.getTypeMirror(getCurrentPath()).getKind().isPrimitive();
        complainIf(6, tree, "a cast of objects", !ofNumbers);
        return super.visitTypeCast(tree, none);
    }

    @Override
    public Void visitInstanceOf(InstanceOfTree tree, Void none) {
        complainIf(6, tree, "an instanceof that is not of own classes", !isOwn(typeOf(tree.getExpression())));
        return super.visitInstanceOf(tree, none);
    }

    // ---- loops

    @Override
    public Void visitForLoop(ForLoopTree tree, Void none) {
        complainIf(9, tree, "a loop without a counter against a bound", !isCounted(tree));
        loops++;
        super.visitForLoop(tree, none);
        loops--;
        return none;
    }

    @Override
    public Void visitEnhancedForLoop(EnhancedForLoopTree tree, Void none) {
        boolean overArray = typeOf(tree.getExpression()).getKind() == TypeKind.ARRAY;
        complainIf(12, tree, "a loop with an iterator", !overArray);
        loops++;
        super.visitEnhancedForLoop(tree, none);
        loops--;
        return none;
    }

    @Override
    public Void visitWhileLoop(WhileLoopTree tree, Void none) {
        complain(9, tree, "a while");
        return super.visitWhileLoop(tree, none);
    }

    @Override
    public Void visitDoWhileLoop(DoWhileLoopTree tree, Void none) {
        complain(9, tree, "a do");
        return super.visitDoWhileLoop(tree, none);
    }

    private static boolean isCounted(ForLoopTree tree) {
        boolean one = tree.getInitializer().size() == 1 && tree.getUpdate().size() == 1 && tree.getCondition() != null;
        if (!one || !(tree.getInitializer().get(0) instanceof VariableTree counter)) {
            return false;
        }
        String name = counter.getName().toString();
        String step = tree.getUpdate().get(0).getExpression().toString();
        boolean up = step.equals(name + "++")
                && isBounded(tree.getCondition(), name, Kind.LESS_THAN, Kind.LESS_THAN_EQUAL);
        boolean down = step.equals(name + "--")
                && isBounded(tree.getCondition(), name, Kind.GREATER_THAN, Kind.GREATER_THAN_EQUAL);
        return (up || down) && !Boolean.TRUE.equals(new Changes(name).scan(tree.getStatement(), null));
    }

    /** One of the parts that && joins compares the counter itself. */
    private static boolean isBounded(ExpressionTree condition, String counter, Kind one, Kind other) {
        ExpressionTree inner = withoutParentheses(condition);
        if (!(inner instanceof BinaryTree binary)) {
            return false;
        }
        if (inner.getKind() == Kind.CONDITIONAL_AND) {
            return isBounded(binary.getLeftOperand(), counter, one, other)
                    || isBounded(binary.getRightOperand(), counter, one, other);
        }
        boolean compares = inner.getKind() == one || inner.getKind() == other;
        return compares && binary.getLeftOperand().toString().equals(counter);
    }

    /** Answers true if a variable of this name is changed. */
    private static final class Changes extends TreeScanner<Boolean, Void> {
        private final String name;

        Changes(String name) {
            this.name = name;
        }

        @Override
        public Boolean visitAssignment(AssignmentTree tree, Void none) {
            return reduce(tree.getVariable().toString().equals(name), super.visitAssignment(tree, none));
        }

        @Override
        public Boolean visitCompoundAssignment(CompoundAssignmentTree tree, Void none) {
            return reduce(tree.getVariable().toString().equals(name), super.visitCompoundAssignment(tree, none));
        }

        @Override
        public Boolean visitUnary(UnaryTree tree, Void none) {
            boolean steps = tree.toString().contains("++") || tree.toString().contains("--");
            boolean changed = steps && tree.getExpression().toString().equals(name);
            return reduce(changed, super.visitUnary(tree, none));
        }

        @Override
        public Boolean reduce(Boolean one, Boolean other) {
            return Boolean.TRUE.equals(one) || Boolean.TRUE.equals(other);
        }
    }

    // ---- what is counted

    @Override
    public Void visitBinary(BinaryTree tree, Void none) {
        checkDivisor(tree, tree.getRightOperand());
        boolean texts = isText(typeOf(tree.getLeftOperand())) || isText(typeOf(tree.getRightOperand()));
        complainIf(10, tree, "texts joined by +", tree.getKind() == Kind.PLUS && texts);
        boolean compared = tree.getKind() == Kind.EQUAL_TO || tree.getKind() == Kind.NOT_EQUAL_TO;
        complainIf(6, tree, "texts compared by ==", compared && texts);
        return super.visitBinary(tree, none);
    }

    @Override
    public Void visitCompoundAssignment(CompoundAssignmentTree tree, Void none) {
        checkDivisor(tree, tree.getExpression());
        complainIf(10, tree, "texts joined by +", isText(typeOf(tree.getVariable())));
        return super.visitCompoundAssignment(tree, none);
    }

    private void checkDivisor(Tree tree, ExpressionTree divisor) {
        boolean divides = Set.of(Kind.DIVIDE, Kind.REMAINDER, Kind.DIVIDE_ASSIGNMENT, Kind.REMAINDER_ASSIGNMENT)
                .contains(tree.getKind());
        complainIf(7, tree, "a divisor that is no constant but 0", divides && !isConstantButZero(divisor));
    }

    private boolean isConstantButZero(ExpressionTree tree) {
        Object value = null;
        if (tree instanceof LiteralTree literal) {
            value = literal.getValue();
        } else if (trees.getElement(new TreePath(getCurrentPath(), tree)) instanceof VariableElement variable) {
            value = variable.getConstantValue();
        }
        return value instanceof Number number && number.longValue() != 0;
    }

    private boolean isConstant(ExpressionTree tree) {
        ExpressionTree inner = withoutParentheses(tree);
        if (inner instanceof BinaryTree binary) {
            return isConstant(binary.getLeftOperand()) && isConstant(binary.getRightOperand());
        }
        return isConstantButZero(inner);
    }

    @Override
    public Void visitLiteral(LiteralTree tree, Void none) {
        if (tree.getValue() instanceof String text) {
            complainIf(4, tree, "a sign that is not 1 to 127", !text.chars().allMatch(sign -> sign > 0 && sign < 128));
        }
        return super.visitLiteral(tree, none);
    }

    @Override
    public Void visitLambdaExpression(LambdaExpressionTree tree, Void none) {
        complain(2, tree, "a lambda");
        return super.visitLambdaExpression(tree, none);
    }

    @Override
    public Void visitMemberReference(MemberReferenceTree tree, Void none) {
        complain(2, tree, "a method reference");
        return super.visitMemberReference(tree, none);
    }

    // ---- what the visits share

    private Element elementHere() {
        return trees.getElement(getCurrentPath());
    }

    private TypeMirror typeOf(ExpressionTree tree) {
        return trees.getTypeMirror(new TreePath(getCurrentPath(), tree));
    }

    private static boolean isText(TypeMirror type) {
        return type != null && type.toString().equals("java.lang.String");
    }

    private static ExpressionTree withoutParentheses(ExpressionTree tree) {
        return tree instanceof ParenthesizedTree inner ? withoutParentheses(inner.getExpression()) : tree;
    }

    private boolean isInConstructor() {
        TreePath path = getCurrentPath();
        while (path != null && path.getLeaf().getKind() != Kind.METHOD) {
            path = path.getParentPath();
        }
        return path != null && ((MethodTree) path.getLeaf()).getReturnType() == null;
    }

    private void complainIf(int rule, Tree tree, String what, boolean so) {
        if (so) {
            complain(rule, tree, what);
        }
    }

    private void complain(int rule, Tree tree, String what) {
        complaints.add("rule " + rule + ", line " + lineOf(tree) + ": " + what);
    }

    private long lineOf(Tree tree) {
        return line(trees.getSourcePositions().getStartPosition(unit, tree));
    }

    private long lastLineOf(Tree tree) {
        return line(trees.getSourcePositions().getEndPosition(unit, tree));
    }

    /** What the compiler adds by itself stands on no line. */
    private long line(long position) {
        return position < 0 ? 0 : unit.getLineMap().getLineNumber(position);
    }
}
