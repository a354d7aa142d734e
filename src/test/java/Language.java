import com.sun.source.tree.ArrayAccessTree;
import com.sun.source.tree.AssertTree;
import com.sun.source.tree.AssignmentTree;
import com.sun.source.tree.BinaryTree;
import com.sun.source.tree.BlockTree;
import com.sun.source.tree.ClassTree;
import com.sun.source.tree.CompilationUnitTree;
import com.sun.source.tree.CompoundAssignmentTree;
import com.sun.source.tree.DoWhileLoopTree;
import com.sun.source.tree.ExpressionTree;
import com.sun.source.tree.ForLoopTree;
import com.sun.source.tree.IdentifierTree;
import com.sun.source.tree.LambdaExpressionTree;
import com.sun.source.tree.LiteralTree;
import com.sun.source.tree.MemberReferenceTree;
import com.sun.source.tree.MethodInvocationTree;
import com.sun.source.tree.MethodTree;
import com.sun.source.tree.NewArrayTree;
import com.sun.source.tree.NewClassTree;
import com.sun.source.tree.SwitchExpressionTree;
import com.sun.source.tree.SwitchTree;
import com.sun.source.tree.SynchronizedTree;
import com.sun.source.tree.ThrowTree;
import com.sun.source.tree.Tree;
import com.sun.source.tree.TryTree;
import com.sun.source.tree.TypeCastTree;
import com.sun.source.tree.UnaryTree;
import com.sun.source.tree.VariableTree;
import com.sun.source.tree.WhileLoopTree;
import com.sun.source.util.JavacTask;
import com.sun.source.util.TreePath;
import com.sun.source.util.TreePathScanner;
import com.sun.source.util.TreeScanner;
import com.sun.source.util.Trees;
import java.io.IOException;
import java.net.URI;
import java.util.ArrayList;
import java.util.EnumSet;
import java.util.List;
import java.util.Set;
import javax.lang.model.element.Element;
import javax.lang.model.element.ElementKind;
import javax.lang.model.element.ExecutableElement;
import javax.lang.model.element.Modifier;
import javax.lang.model.element.TypeElement;
import javax.lang.model.element.VariableElement;
import javax.lang.model.type.ArrayType;
import javax.lang.model.type.DeclaredType;
import javax.lang.model.type.TypeKind;
import javax.lang.model.type.TypeMirror;
import javax.tools.DiagnosticCollector;
import javax.tools.JavaCompiler;
import javax.tools.JavaFileObject;
import javax.tools.SimpleJavaFileObject;
import javax.tools.ToolProvider;

/**
 * Goes through a program by the rules of LANGUAGE.md and tells what does not keep to them. Where the program does
 * without something that a rule would let (try, recursion, while, anonymous classes), that is told, too: it would
 * need a closer look than this one.
 */
final class Language extends TreePathScanner<Void, Void> {

    private static final Set<String> EXCEPTIONS = Set.of("IllegalStateException", "IllegalArgumentException",
            "IndexOutOfBoundsException", "ArithmeticException", "UnsupportedOperationException",
            "NoSuchElementException", "RuntimeException");
    private static final Set<String> LIBRARY_TYPES = Set.of("java.lang.String", "java.lang.StringBuilder",
            "java.lang.Integer", "java.util.ArrayList", "java.util.List");
    private static final Set<String> IMPORTS = Set.of("java.util.ArrayList", "java.util.List", "java.util.Arrays",
            "java.util.NoSuchElementException");
    private static final Set<String> LIBRARY_CALLS = Set.of("String.length()", "String.charAt(int)",
            "String.isEmpty()", "String.equals(java.lang.Object)", "String.indexOf(int)", "String.substring(int)",
            "String.substring(int,int)", "String.toCharArray()", "StringBuilder.append(char)",
            "StringBuilder.append(java.lang.String)", "StringBuilder.append(int)", "StringBuilder.charAt(int)",
            "StringBuilder.setCharAt(int,char)", "StringBuilder.setLength(int)", "StringBuilder.deleteCharAt(int)",
            "StringBuilder.reverse()", "StringBuilder.length()", "StringBuilder.toString()");
    private static final Set<Tree.Kind> OF_FRACTIONS = EnumSet.of(Tree.Kind.PLUS, Tree.Kind.MINUS,
            Tree.Kind.MULTIPLY, Tree.Kind.DIVIDE, Tree.Kind.LESS_THAN, Tree.Kind.GREATER_THAN,
            Tree.Kind.LESS_THAN_EQUAL, Tree.Kind.GREATER_THAN_EQUAL, Tree.Kind.EQUAL_TO, Tree.Kind.NOT_EQUAL_TO);
    private static final int MOST_PARAMETERS = 7;
    private static final int MOST_LINES = 60;
    private static final int MOST_CLASSES = 12;
    private static final int MOST_FIELDS = 20;

    private final List<String> complaints = new ArrayList<>();
    private final CallGraph calls = new CallGraph();
    private final Trees trees;
    private final CompilationUnitTree unit;
    private Element caller;
    private int classes;
    private int loops;

    private Language(Trees trees, CompilationUnitTree unit) {
        this.trees = trees;
        this.unit = unit;
    }

    /** A text that the compiler takes for a file. */
    private static final class Source extends SimpleJavaFileObject {
        private final String text;

        Source(String text) {
            super(URI.create("string:///TaflHall.java"), Kind.SOURCE);
            this.text = text;
        }

        @Override
        public CharSequence getCharContent(boolean ignoreEncodingErrors) {
            return text;
        }
    }

    /** What does not keep to the rules: "rule 3: ..", a line each. */
    static List<String> complaints(String program) throws IOException {
        JavaCompiler compiler = ToolProvider.getSystemJavaCompiler();
        DiagnosticCollector<JavaFileObject> said = new DiagnosticCollector<>();
        JavacTask task = (JavacTask) compiler.getTask(null, null, said, List.of("-proc:none"), null,
                List.of(new Source(program)));
        CompilationUnitTree unit = task.parse().iterator().next();
        task.analyze();
        if (!said.getDiagnostics().isEmpty()) {
            return List.of("does not compile: " + said.getDiagnostics());
        }
        Language language = new Language(Trees.instance(task), unit);
        language.scan(new TreePath(unit), null);
        language.lookAtTheWhole();
        return language.complaints;
    }

    private void complain(int rule, String what, Tree where) {
        long line = unit.getLineMap().getLineNumber(trees.getSourcePositions().getStartPosition(unit, where));
        complaints.add("rule " + rule + ": " + what + ", line " + line);
    }

    private void lookAtTheWhole() {
        if (unit.getPackageName() != null || unit.getTypeDecls().size() != 1) {
            complaints.add("rule 1: one class without a package");
        }
        if (classes > MOST_CLASSES) {
            complaints.add("rule 11: " + classes + " classes");
        }
        unit.getImports().forEach(one -> {
            if (one.isStatic() || !IMPORTS.contains(one.getQualifiedIdentifier().toString())) {
                complain(4, "an import from outside the library", one);
            }
        });
        complaints.addAll(calls.complaints());
    }

    private TypeMirror typeOf(Tree tree) {
        return trees.getTypeMirror(new TreePath(getCurrentPath(), tree));
    }

    private Element elementOf(Tree tree) {
        return trees.getElement(new TreePath(getCurrentPath(), tree));
    }

    private boolean isOwn(Element element) {
        Element top = element;
        while (top.getEnclosingElement() != null && top.getEnclosingElement().getKind() != ElementKind.PACKAGE) {
            top = top.getEnclosingElement();
        }
        return top.equals(trees.getElement(new TreePath(new TreePath(unit), unit.getTypeDecls().get(0))));
    }

    private static boolean isFraction(TypeMirror type) {
        return type.getKind() == TypeKind.DOUBLE || type.getKind() == TypeKind.FLOAT;
    }

    private static boolean isWhole(TypeMirror type) {
        return type.getKind() == TypeKind.INT || type.getKind() == TypeKind.LONG;
    }

    private static boolean isText(TypeMirror type) {
        return type != null && type.toString().equals("java.lang.String");
    }

    private boolean isAllowed(TypeMirror type) {
        if (type.getKind() == TypeKind.ARRAY) {
            TypeMirror part = ((ArrayType) type).getComponentType();
            boolean rows = part.getKind() == TypeKind.ARRAY
                    && ((ArrayType) part).getComponentType().getKind().isPrimitive();
            return part.getKind().isPrimitive() || rows || isOwnType(part);
        }
        return type.getKind().isPrimitive() || type.getKind() == TypeKind.VOID || isOwnType(type)
                || LIBRARY_TYPES.contains(type.toString().replaceAll("<.*>", ""));
    }

    private boolean isOwnType(TypeMirror type) {
        return type.getKind() == TypeKind.DECLARED && isOwn(((DeclaredType) type).asElement());
    }

    // ---- rules 2, 5 and 11: classes and fields

    @Override
    public Void visitClass(ClassTree node, Void unused) {
        classes++;
        Element element = trees.getElement(getCurrentPath());
        Tree outside = getCurrentPath().getParentPath().getLeaf();
        Set<Modifier> modifiers = element.getModifiers();
        boolean top = outside == unit;
        if (!top && (!(outside instanceof ClassTree) || !modifiers.contains(Modifier.STATIC)
                || modifiers.contains(Modifier.PUBLIC) || modifiers.contains(Modifier.PROTECTED))) {
            complain(2, "a class that is not a static one inside", node);
        }
        long fields = element.getEnclosedElements().stream().filter(one -> one.getKind() == ElementKind.FIELD
                && !one.getModifiers().contains(Modifier.STATIC)).count();
        if (fields > MOST_FIELDS) {
            complain(11, fields + " fields", node);
        }
        return super.visitClass(node, unused);
    }

    @Override
    public Void visitLambdaExpression(LambdaExpressionTree node, Void unused) {
        complain(2, "a lambda", node);
        return null;
    }

    @Override
    public Void visitMemberReference(MemberReferenceTree node, Void unused) {
        complain(2, "a method reference", node);
        return null;
    }

    @Override
    public Void visitBlock(BlockTree node, Void unused) {
        if (getCurrentPath().getParentPath().getLeaf() instanceof ClassTree) {
            complain(5, "an initialiser block", node);
        }
        return super.visitBlock(node, unused);
    }

    // ---- rules 3 and 5: variables, and what they hold

    @Override
    public Void visitVariable(VariableTree node, Void unused) {
        Element element = trees.getElement(getCurrentPath());
        if (!isAllowed(element.asType())) {
            complain(3, "the type " + element.asType(), node);
        }
        if (element.getModifiers().contains(Modifier.STATIC)) {
            lookAtConstant((VariableElement) element, node);
        }
        boolean field = element.getKind() == ElementKind.FIELD;
        Element before = caller;
        caller = field ? element.getEnclosingElement() : caller;
        super.visitVariable(node, unused);
        caller = before;
        return null;
    }

    private void lookAtConstant(VariableElement element, VariableTree node) {
        TypeMirror type = element.asType();
        boolean kind = isWhole(type) || isText(type) || type.getKind() == TypeKind.BOOLEAN
                || type.getKind() == TypeKind.CHAR;
        if (!kind || element.getConstantValue() == null) {
            complain(5, "the static " + element + " is no constant of int, long, boolean, char or String", node);
        }
    }

    @Override
    public Void visitTypeCast(TypeCastTree node, Void unused) {
        TypeMirror to = typeOf(node.getType());
        if (!to.getKind().isPrimitive()) {
            complain(7, "a cast to " + to, node);
        }
        return super.visitTypeCast(node, unused);
    }

    @Override
    public Void visitBinary(BinaryTree node, Void unused) {
        TypeMirror left = typeOf(node.getLeftOperand());
        TypeMirror right = typeOf(node.getRightOperand());
        if ((isFraction(left) || isFraction(right)) && !OF_FRACTIONS.contains(node.getKind())) {
            complain(3, node.getKind() + " on a double or float", node);
        }
        if (isText(left) || isText(right)) {
            boolean joined = node.getKind() == Tree.Kind.PLUS;
            complain(joined ? 10 : 6, joined ? "texts joined by +" : "Strings compared by " + node.getKind(), node);
        }
        if (node.getKind() == Tree.Kind.DIVIDE || node.getKind() == Tree.Kind.REMAINDER) {
            lookAtDivisor(node.getRightOperand());
        }
        return super.visitBinary(node, unused);
    }

    @Override
    public Void visitCompoundAssignment(CompoundAssignmentTree node, Void unused) {
        if (isText(typeOf(node.getVariable()))) {
            complain(10, "texts joined by +=", node);
        }
        if (node.getKind() == Tree.Kind.DIVIDE_ASSIGNMENT || node.getKind() == Tree.Kind.REMAINDER_ASSIGNMENT) {
            lookAtDivisor(node.getExpression());
        }
        return super.visitCompoundAssignment(node, unused);
    }

    private void lookAtDivisor(ExpressionTree divisor) {
        Object value = divisor instanceof LiteralTree ? ((LiteralTree) divisor).getValue() : null;
        Element element = elementOf(divisor);
        if (element instanceof VariableElement) {
            value = ((VariableElement) element).getConstantValue();
        }
        if (!(value instanceof Number) || ((Number) value).doubleValue() == 0.0) {
            complain(7, "a divisor that is no constant", divisor);
        }
    }

    @Override
    public Void visitArrayAccess(ArrayAccessTree node, Void unused) {
        String index = node.getIndex().toString();
        String method = textAround();
        boolean bounded = method.contains(index + " < " + node.getExpression() + ".length");
        if (!bounded || !method.contains(index + " >= 0")) {
            complain(7, "an index that is not looked at: " + node, node);
        }
        return super.visitArrayAccess(node, unused);
    }

    private String textAround() {
        for (TreePath path = getCurrentPath(); path != null; path = path.getParentPath()) {
            if (path.getLeaf() instanceof MethodTree) {
                return path.getLeaf().toString();
            }
        }
        return "";
    }

    // ---- rules 4, 12 and 13: what is called and made

    @Override
    public Void visitMethodInvocation(MethodInvocationTree node, Void unused) {
        ExecutableElement called = (ExecutableElement) trees.getElement(getCurrentPath());
        if (isOwn(called)) {
            calls.add(caller, called, loops > 0);
        } else if (called.getKind() != ElementKind.CONSTRUCTOR && !isOfLibrary(called)) {
            complain(4, "a call from outside the library: " + called.getEnclosingElement() + "." + called, node);
        }
        return super.visitMethodInvocation(node, unused);
    }

    private static boolean isOfLibrary(ExecutableElement called) {
        String owner = ((TypeElement) called.getEnclosingElement()).getQualifiedName().toString();
        boolean numbers = called.getModifiers().contains(Modifier.STATIC) && called.getParameters().stream()
                .allMatch(one -> isWhole(one.asType())) && !called.getSimpleName().toString().endsWith("Exact");
        switch (owner) {
            case "java.lang.Integer":
            case "java.lang.Long":
            case "java.lang.Math":
                return numbers && (isWhole(called.getReturnType()) || isText(called.getReturnType()));
            case "java.lang.String":
            case "java.lang.StringBuilder":
                return LIBRARY_CALLS.contains(owner.substring("java.lang.".length()) + "." + called);
            case "java.util.List":
            case "java.util.ArrayList":
                return Set.of("add", "get", "set", "remove", "size", "isEmpty", "clear", "of")
                        .contains(called.getSimpleName().toString());
            case "java.util.Arrays":
                return Set.of("copyOf", "copyOfRange", "fill").contains(called.getSimpleName().toString());
            default:
                return owner.equals("java.lang.System") && called.getSimpleName().contentEquals("arraycopy");
        }
    }

    @Override
    public Void visitNewClass(NewClassTree node, Void unused) {
        Element constructor = trees.getElement(getCurrentPath());
        String made = constructor.getEnclosingElement().toString();
        boolean thrown = getCurrentPath().getParentPath().getLeaf() instanceof ThrowTree;
        if (!isOwn(constructor) && !thrown && !LIBRARY_TYPES.contains(made)) {
            complain(4, "a new " + made, node);
        }
        if (!thrown) {
            calls.makes(caller, loops > 0);
        }
        if (isOwn(constructor)) {
            calls.add(caller, constructor.getEnclosingElement(), loops > 0);
        }
        return super.visitNewClass(node, unused);
    }

    @Override
    public Void visitNewArray(NewArrayTree node, Void unused) {
        calls.makes(caller, loops > 0);
        for (ExpressionTree length : node.getDimensions()) {
            Element element = elementOf(length);
            if (!(length instanceof LiteralTree) && (!(element instanceof VariableElement)
                    || ((VariableElement) element).getConstantValue() == null)) {
                complain(7, "a length that is no constant", node);
            }
        }
        return super.visitNewArray(node, unused);
    }

    @Override
    public Void visitLiteral(LiteralTree node, Void unused) {
        if (node.getValue() instanceof String || node.getValue() instanceof Character) {
            boolean plain = node.getValue().toString().chars().allMatch(sign -> sign >= 1 && sign <= 127);
            if (!plain) {
                complain(4, "a sign that is not 1 to 127", node);
            }
        }
        return super.visitLiteral(node, unused);
    }

    // ---- rule 6: exceptions

    @Override
    public Void visitThrow(ThrowTree node, Void unused) {
        ExpressionTree thrown = node.getExpression();
        boolean plain = false;
        if (thrown instanceof NewClassTree) {
            NewClassTree made = (NewClassTree) thrown;
            plain = EXCEPTIONS.contains(made.getIdentifier().toString()) && made.getClassBody() == null
                    && made.getArguments().stream().allMatch(one -> one.getKind() == Tree.Kind.STRING_LITERAL);
        }
        if (!plain) {
            complain(6, "what is thrown: " + thrown, node);
        }
        if (caller != null && caller.getKind() == ElementKind.CLASS) {
            complain(6, "a throw in a constructor", node);
        }
        return super.visitThrow(node, unused);
    }

    @Override
    public Void visitTry(TryTree node, Void unused) {
        complain(6, "a try", node);
        return super.visitTry(node, unused);
    }

    @Override
    public Void visitSynchronized(SynchronizedTree node, Void unused) {
        complain(6, "synchronized", node);
        return super.visitSynchronized(node, unused);
    }

    @Override
    public Void visitAssert(AssertTree node, Void unused) {
        complain(6, "an assert", node);
        return super.visitAssert(node, unused);
    }

    // ---- rules 9 and 10: loops and switches

    @Override
    public Void visitForLoop(ForLoopTree node, Void unused) {
        if (!endIsSeen(node)) {
            complain(9, "a for whose end is not seen in its head", node);
        }
        loops++;
        super.visitForLoop(node, unused);
        loops--;
        return null;
    }

    /** The head goes on with one variable, its condition looks at that, and the body leaves it alone. */
    private static boolean endIsSeen(ForLoopTree node) {
        if (node.getCondition() == null || node.getUpdate().size() != 1) {
            return false;
        }
        ExpressionTree update = node.getUpdate().get(0).getExpression();
        String name = assignedBy(update);
        return name != null && names(node.getCondition(), name) && !assigns(node.getStatement(), name)
                && isStep(update, name);
    }

    // A counter goes up by one, or a chain goes on by one link: "moment = moment.next".
    private static boolean isStep(ExpressionTree update, String name) {
        return update.getKind() == Tree.Kind.POSTFIX_INCREMENT || update instanceof AssignmentTree
                && ((AssignmentTree) update).getExpression().toString().matches(name + "\\.\\w+");
    }

    private static String assignedBy(Tree tree) {
        ExpressionTree target = null;
        if (tree instanceof AssignmentTree) {
            target = ((AssignmentTree) tree).getVariable();
        } else if (tree instanceof CompoundAssignmentTree) {
            target = ((CompoundAssignmentTree) tree).getVariable();
        } else if (tree instanceof UnaryTree && tree.getKind().name().matches(".*(IN|DE)CREMENT")) {
            target = ((UnaryTree) tree).getExpression();
        }
        return target instanceof IdentifierTree ? target.toString() : null;
    }

    private static boolean names(Tree tree, String name) {
        return tree.toString().matches("(?s).*\\b" + name + "\\b.*");
    }

    private static boolean assigns(Tree body, String name) {
        boolean[] found = {false};
        new TreeScanner<Void, Void>() {
            @Override
            public Void scan(Tree tree, Void unused) {
                found[0] |= tree != null && name.equals(assignedBy(tree));
                return super.scan(tree, unused);
            }
        }.scan(body, null);
        return found[0];
    }

    @Override
    public Void visitWhileLoop(WhileLoopTree node, Void unused) {
        complain(9, "a while", node);
        return super.visitWhileLoop(node, unused);
    }

    @Override
    public Void visitDoWhileLoop(DoWhileLoopTree node, Void unused) {
        complain(9, "a do", node);
        return super.visitDoWhileLoop(node, unused);
    }

    @Override
    public Void visitSwitch(SwitchTree node, Void unused) {
        lookAtSelector(node.getExpression(), node);
        return super.visitSwitch(node, unused);
    }

    @Override
    public Void visitSwitchExpression(SwitchExpressionTree node, Void unused) {
        lookAtSelector(node.getExpression(), node);
        return super.visitSwitchExpression(node, unused);
    }

    private void lookAtSelector(ExpressionTree selector, Tree node) {
        if (isText(typeOf(selector))) {
            complain(10, "a switch on a String", node);
        }
    }

    // ---- rules 6, 8 and 11: methods

    @Override
    public Void visitMethod(MethodTree node, Void unused) {
        Element method = trees.getElement(getCurrentPath());
        if (method.getModifiers().contains(Modifier.SYNCHRONIZED) || Set.of("equals", "hashCode", "toString")
                .contains(node.getName().toString())) {
            complain(6, "the method " + node.getName(), node);
        }
        if (node.getReturnType() != null && !isAllowed(typeOf(node.getReturnType()))) {
            complain(3, "the type " + node.getReturnType(), node);
        }
        if (node.getParameters().size() > MOST_PARAMETERS) {
            complain(11, node.getParameters().size() + " parameters", node);
        }
        long lines = lineOf(trees.getSourcePositions().getEndPosition(unit, node))
                - lineOf(trees.getSourcePositions().getStartPosition(unit, node)) + 1;
        if (lines > MOST_LINES) {
            complain(11, lines + " lines of " + node.getName(), node);
        }
        Element before = caller;
        // What a class's fields begin with is done by its constructors, so both are one knot of the graph.
        caller = method.getKind() == ElementKind.CONSTRUCTOR ? method.getEnclosingElement() : method;
        super.visitMethod(node, unused);
        caller = before;
        return null;
    }

    private long lineOf(long position) {
        return position < 0 ? 0 : unit.getLineMap().getLineNumber(position);
    }
}
