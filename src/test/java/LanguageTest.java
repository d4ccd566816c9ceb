import com.sun.source.tree.BinaryTree;
import com.sun.source.tree.CompoundAssignmentTree;
import com.sun.source.tree.ExpressionTree;
import com.sun.source.tree.ForLoopTree;
import com.sun.source.tree.NewClassTree;
import com.sun.source.tree.ThrowTree;
import com.sun.source.tree.Tree;
import com.sun.source.tree.Tree.Kind;
import com.sun.source.tree.TryTree;
import com.sun.source.util.TreePath;
import java.io.IOException;
import java.nio.file.Path;
import java.util.ArrayDeque;
import java.util.Deque;
import java.util.HashMap;
import java.util.HashSet;
import java.util.List;
import java.util.Map;
import java.util.Set;
import javax.lang.model.element.Element;
import javax.lang.model.element.ElementKind;
import javax.lang.model.element.ExecutableElement;
import javax.lang.model.element.Modifier;
import javax.lang.model.element.VariableElement;
import javax.lang.model.type.ArrayType;
import javax.lang.model.type.TypeKind;
import javax.lang.model.type.TypeMirror;

/**
 * The rules of LANGUAGE.md, looked for in the class as the compiler reads it. Where a rule leaves more than the
 * class uses, the test may refuse it too: it is widened when the class needs it.
 */
public final class LanguageTest {
    private static final Path CLASS = Path.of("src/main/java/WeighRecorder.java");
    private static final Set<String> TYPES = Set.of("String", "StringBuilder");
    private static final Set<String> NUMBERS = Set.of("java.lang.Math", "java.lang.Integer", "java.lang.Long");
    private static final Set<String> EXCEPTIONS = Set.of("IllegalStateException", "IllegalArgumentException",
            "IndexOutOfBoundsException", "ArithmeticException", "UnsupportedOperationException",
            "NoSuchElementException", "RuntimeException");
    private static final int MOST_PARAMETERS = 7;
    private static final int MOST_LINES = 60;
    private static final int MOST_DEPTH = 8;
    private static final int MOST_CLASSES = 12;
    private static final int MOST_FIELDS = 20;

    private final Source source;

    private LanguageTest(Source source) {
        this.source = source;
    }

    public static void main(String[] args) throws IOException {
        LanguageTest test = new LanguageTest(new Source(args.length == 0 ? CLASS : Path.of(args[0])));
        test.rule1TheFace();
        test.rule2ClassesInside();
        test.rule3Types();
        test.rule4TheLibrary();
        test.rule5StaticFields();
        test.rule6Exceptions();
        test.rule7NothingThrowsByItself();
        test.rule8Recursion();
        test.rule9Loops();
        test.rule10Texts();
        test.rule11Sizes();
        test.rule12Objects();
        test.rule13TheSameAnswers();
        Expect.end();
    }

    private void require(boolean holds, String rule, TreePath part) {
        if (!holds) {
            String text = part.getLeaf().toString().strip();
            Expect.report("rule " + rule + ": " + source.place(part) + ": " + text.lines().findFirst().orElse(""));
        }
    }

    private void none(String rule, Kind first, Kind... more) {
        for (TreePath part : source.all(first, more)) {
            require(false, rule, part);
        }
    }

    private static boolean has(Element element, Modifier modifier) {
        return element.getModifiers().contains(modifier);
    }

    private static boolean isNested(Element type) {
        return type.getEnclosingElement().getKind() != ElementKind.PACKAGE;
    }

    private boolean isConstructor(TreePath method) {
        return method != null && source.element(method).getKind() == ElementKind.CONSTRUCTOR;
    }

    // ---- the rules

    /** What is public stands in FaceTest. */
    private void rule1TheFace() {
        none("1, no package line", Kind.PACKAGE);
        Set<String> open = new HashSet<>();
        List<TreePath> methods = source.all(Kind.METHOD);
        for (TreePath method : methods) {
            if (has(source.element(method), Modifier.PUBLIC)) {
                open.add(source.element(method).getSimpleName().toString());
            }
        }
        for (TreePath method : methods) {
            Element element = source.element(method);
            boolean hidden = has(element, Modifier.PRIVATE);
            require(!hidden || !open.contains(element.getSimpleName().toString()), "1, named as the face", method);
        }
    }

    private void rule2ClassesInside() {
        none("2", Kind.LAMBDA_EXPRESSION, Kind.MEMBER_REFERENCE);
        for (TreePath type : source.all(Kind.CLASS, Kind.ENUM, Kind.INTERFACE, Kind.RECORD)) {
            Element element = source.element(type);
            boolean top = !isNested(element);
            require(top || has(element, Modifier.STATIC), "2, static", type);
            require(top || element.getEnclosingElement().getKind().isClass(), "2, no local class", type);
        }
    }

    private void rule3Types() {
        for (TreePath variable : source.all(Kind.VARIABLE)) {
            require(isAllowed(source.element(variable).asType()), "3", variable);
        }
        for (TreePath method : source.all(Kind.METHOD)) {
            require(isAllowed(((ExecutableElement) source.element(method)).getReturnType()), "3", method);
        }
    }

    private static boolean isAllowed(TypeMirror type) {
        if (type.getKind() == TypeKind.ARRAY) {
            TypeMirror of = ((ArrayType) type).getComponentType();
            return of.getKind() != TypeKind.ARRAY && isAllowed(of);
        }
        String name = type.toString().replace("java.lang.", "");
        boolean own = name.startsWith("WeighRecorder");
        boolean fraction = type.getKind() == TypeKind.DOUBLE || type.getKind() == TypeKind.FLOAT;
        return own || TYPES.contains(name) || type.getKind() == TypeKind.VOID
                || type.getKind().isPrimitive() && !fraction;
    }

    private void rule4TheLibrary() {
        none("4, no other package", Kind.IMPORT);
        for (TreePath call : source.all(Kind.METHOD_INVOCATION)) {
            Element called = source.element(call);
            String owner = called.getEnclosingElement().toString();
            boolean number = NUMBERS.contains(owner) && !called.getSimpleName().toString().endsWith("Exact");
            require(owner.startsWith("WeighRecorder") || number && isOfInts((ExecutableElement) called), "4", call);
        }
    }

    private static boolean isOfInts(ExecutableElement called) {
        boolean ints = true;
        for (VariableElement parameter : called.getParameters()) {
            TypeKind kind = parameter.asType().getKind();
            ints &= kind == TypeKind.INT || kind == TypeKind.LONG;
        }
        return ints;
    }

    private void rule5StaticFields() {
        for (TreePath variable : source.all(Kind.VARIABLE)) {
            Element field = source.element(variable);
            if (field.getKind() == ElementKind.FIELD && has(field, Modifier.STATIC)) {
                boolean number = ((VariableElement) field).getConstantValue() != null;
                require(has(field, Modifier.FINAL) && number, "5", variable);
            }
        }
        for (TreePath block : source.all(Kind.BLOCK)) {
            require(block.getParentPath().getLeaf().getKind() != Kind.CLASS, "5, no initialiser block", block);
        }
    }

    private void rule6Exceptions() {
        none("6", Kind.SYNCHRONIZED, Kind.ASSERT);
        for (TreePath part : source.all(Kind.THROW)) {
            ExpressionTree thrown = ((ThrowTree) part.getLeaf()).getExpression();
            boolean made = thrown instanceof NewClassTree
                    && EXCEPTIONS.contains(((NewClassTree) thrown).getIdentifier().toString());
            require(made, "6, throw new E()", part);
            require(!isConstructor(Source.around(part, Kind.METHOD)), "6, no throw in a constructor", part);
            require(Source.around(part, Kind.TRY) == null, "6, no throw in the very method", part);
        }
        for (TreePath part : source.all(Kind.TRY)) {
            TryTree tree = (TryTree) part.getLeaf();
            require(tree.getFinallyBlock() == null && tree.getResources().isEmpty(), "6", part);
        }
    }

    /** Indices are looked for by the runs of ModelTest, where each other exception is told; divisors here. */
    private void rule7NothingThrowsByItself() {
        for (TreePath part : source.all(Kind.DIVIDE, Kind.REMAINDER)) {
            require(isConstant(part, ((BinaryTree) part.getLeaf()).getRightOperand()), "7, divisor", part);
        }
        for (TreePath part : source.all(Kind.DIVIDE_ASSIGNMENT, Kind.REMAINDER_ASSIGNMENT)) {
            require(isConstant(part, ((CompoundAssignmentTree) part.getLeaf()).getExpression()), "7, divisor", part);
        }
    }

    private boolean isConstant(TreePath part, Tree operand) {
        if (operand.getKind() == Kind.INT_LITERAL) {
            return !operand.toString().equals("0");
        }
        Element element = source.element(new TreePath(part, operand));
        Object value = element instanceof VariableElement ? ((VariableElement) element).getConstantValue() : null;
        return value instanceof Integer && (Integer) value != 0;
    }

    private void rule8Recursion() {
        for (Element method : source.calls().keySet()) {
            Expect.is("rule 8: " + method + " calls itself", reached(method).contains(method) ? 1 : 0, 0);
        }
    }

    private Set<Element> reached(Element method) {
        Set<Element> found = new HashSet<>();
        Deque<Element> open = new ArrayDeque<>(calledBy(method));
        while (!open.isEmpty()) {
            Element called = open.poll();
            if (found.add(called)) {
                open.addAll(calledBy(called));
            }
        }
        return found;
    }

    private Set<Element> calledBy(Element method) {
        return source.calls().getOrDefault(method, Set.of());
    }

    private void rule9Loops() {
        none("9, a loop without a counter", Kind.WHILE_LOOP, Kind.DO_WHILE_LOOP);
        for (TreePath part : source.all(Kind.FOR_LOOP)) {
            ForLoopTree loop = (ForLoopTree) part.getLeaf();
            require(loop.getCondition() != null && !loop.getUpdate().isEmpty(), "9", part);
        }
    }

    private void rule10Texts() {
        for (TreePath part : source.all(Kind.PLUS, Kind.PLUS_ASSIGNMENT)) {
            require(source.type(part).getKind().isPrimitive(), "10, no texts joined by +", part);
        }
    }

    private void rule11Sizes() {
        for (TreePath method : source.all(Kind.METHOD)) {
            int parameters = ((ExecutableElement) source.element(method)).getParameters().size();
            require(parameters <= MOST_PARAMETERS, "11, parameters", method);
            require(source.lines(method) <= MOST_LINES, "11, lines", method);
        }
        if (Expect.wrongSoFar() == 0) {
            // Where methods call themselves, which rule 8 has told by now, no depth is found.
            for (Element method : source.calls().keySet()) {
                int depth = depthOf(method, new HashMap<>());
                Expect.is("rule 11: deep calls of " + method + ", " + depth, depth <= MOST_DEPTH ? 1 : 0, 1);
            }
        }
        List<TreePath> types = source.all(Kind.CLASS, Kind.ENUM, Kind.INTERFACE, Kind.RECORD);
        Expect.is("rule 11: classes, " + types.size(), types.size() <= MOST_CLASSES ? 1 : 0, 1);
        for (TreePath type : types) {
            long fields = source.element(type).getEnclosedElements().stream()
                    .filter(e -> e.getKind() == ElementKind.FIELD && !has(e, Modifier.STATIC)).count();
            require(fields <= MOST_FIELDS, "11, fields", type);
        }
    }

    private int depthOf(Element method, Map<Element, Integer> known) {
        Integer depth = known.get(method);
        if (depth == null) {
            depth = 1;
            for (Element called : calledBy(method)) {
                depth = Math.max(depth, 1 + depthOf(called, known));
            }
            known.put(method, depth);
        }
        return depth;
    }

    /** All calls of a run live in one room, so only fields and exceptions are made. */
    private void rule12Objects() {
        for (TreePath part : source.all(Kind.NEW_CLASS, Kind.NEW_ARRAY)) {
            boolean inMethod = Source.around(part, Kind.METHOD) != null;
            boolean thrown = part.getParentPath().getLeaf().getKind() == Kind.THROW;
            require(!inMethod || thrown, "12, made in a call", part);
            boolean bare = part.getLeaf().getKind() == Kind.NEW_ARRAY
                    || ((NewClassTree) part.getLeaf()).getArguments().isEmpty();
            require(bare || thrown, "12, a constructor hands out", part);
        }
        for (TreePath call : source.all(Kind.METHOD_INVOCATION)) {
            TreePath method = Source.around(call, Kind.METHOD);
            if (method == null || isConstructor(method)) {
                Element owner = source.element(call).getEnclosingElement();
                require(has(owner, Modifier.FINAL), "12, called by a constructor", call);
            }
        }
    }

    /** Clock, randomness and files are kept out by rule 4; two objects that are asked alike answer alike. */
    private void rule13TheSameAnswers() {
        Expect.same("rule 13: the same calls", answers(), answers());
    }

    private static String answers() {
        WeighRecorder x = Chips.recorder();
        StringBuilder text = new StringBuilder();
        for (int i = 0; i < 40; i++) {
            text.append(Chips.weigh(x, i)).append(' ').append(x.sync()).append(' ');
        }
        for (int page = 0; page < 32; page++) {
            for (int word = 0; word < 16; word++) {
                text.append(x.word(page, word)).append(' ');
            }
        }
        return text.toString();
    }
}
