import com.sun.source.tree.ArrayAccessTree;
import com.sun.source.tree.AssertTree;
import com.sun.source.tree.AssignmentTree;
import com.sun.source.tree.BinaryTree;
import com.sun.source.tree.BlockTree;
import com.sun.source.tree.ClassTree;
import com.sun.source.tree.CompilationUnitTree;
import com.sun.source.tree.CompoundAssignmentTree;
import com.sun.source.tree.DoWhileLoopTree;
import com.sun.source.tree.EnhancedForLoopTree;
import com.sun.source.tree.ExpressionTree;
import com.sun.source.tree.ForLoopTree;
import com.sun.source.tree.IdentifierTree;
import com.sun.source.tree.LambdaExpressionTree;
import com.sun.source.tree.LiteralTree;
import com.sun.source.tree.MemberReferenceTree;
import com.sun.source.tree.MemberSelectTree;
import com.sun.source.tree.MethodInvocationTree;
import com.sun.source.tree.MethodTree;
import com.sun.source.tree.NewArrayTree;
import com.sun.source.tree.NewClassTree;
import com.sun.source.tree.ParenthesizedTree;
import com.sun.source.tree.SynchronizedTree;
import com.sun.source.tree.ThrowTree;
import com.sun.source.tree.Tree;
import com.sun.source.tree.TryTree;
import com.sun.source.tree.TypeCastTree;
import com.sun.source.tree.UnaryTree;
import com.sun.source.tree.VariableTree;
import com.sun.source.tree.WhileLoopTree;
import com.sun.source.util.JavacTask;
import com.sun.source.util.SourcePositions;
import com.sun.source.util.TreePath;
import com.sun.source.util.TreePathScanner;
import com.sun.source.util.Trees;
import java.io.IOException;
import java.nio.charset.StandardCharsets;
import java.nio.file.Files;
import java.nio.file.Path;
import java.util.ArrayList;
import java.util.HashMap;
import java.util.HashSet;
import java.util.LinkedHashMap;
import java.util.LinkedHashSet;
import java.util.List;
import java.util.Map;
import java.util.Set;
import java.util.regex.Matcher;
import java.util.regex.Pattern;
import javax.lang.model.element.Element;
import javax.lang.model.element.ElementKind;
import javax.lang.model.element.ExecutableElement;
import javax.lang.model.element.Modifier;
import javax.lang.model.element.TypeElement;
import javax.lang.model.element.VariableElement;
import javax.lang.model.type.ArrayType;
import javax.lang.model.type.DeclaredType;
import javax.lang.model.type.TypeKind;
import javax.lang.model.type.TypeMirror;
import javax.tools.JavaCompiler;
import javax.tools.StandardJavaFileManager;
import javax.tools.ToolProvider;

/**
 * What can be told from the source alone of the rules of ../shared/LANGUAGE.md, by the compiler's own tree of it. Where
 * the rules leave more than the class uses (try, own generic classes, lists), the test asks for what the class does.
 * NumberFormatException is the one class beyond the rules: promise 4 asks for it by name.
 */
public final class LanguageRulesTest {

    private static final Path SOURCE = Path.of("src/main/java/PartitionCabinet.java");
    private static final int GREATEST_CALL_DEPTH = 8;
    private static final int MOST_LINES = 60;
    private static final int MOST_PARAMETERS = 7;
    private static final int MOST_CLASSES = 12;
    private static final int MOST_FIELDS = 20;
    private static final Set<String> LISTED_CALLS = Set.of("String.length()", "String.indexOf(int)",
            "Math.max(int,int)", "Math.min(int,int)", "Math.floorMod(long,long)", "Math.floorDiv(long,long)",
            "System.arraycopy(java.lang.Object,int,java.lang.Object,int,int)");
    private static final Set<String> LISTED_EXCEPTIONS = Set.of("IllegalStateException", "IllegalArgumentException",
            "IndexOutOfBoundsException", "ArithmeticException", "UnsupportedOperationException",
            "NoSuchElementException", "RuntimeException");
    private static final String PROMISED = "NumberFormatException";
    private static final Set<TypeKind> NUMBERS = Set.of(TypeKind.INT, TypeKind.LONG, TypeKind.CHAR, TypeKind.BOOLEAN);

    private static int passed = 0;
    private static int failed = 0;
    private static Trees trees;
    private static SourcePositions positions;
    private static CompilationUnitTree unit;
    private static String source;

    public static void main(String[] args) throws IOException {
        source = Files.readString(SOURCE, StandardCharsets.UTF_8);
        JavaCompiler compiler = ToolProvider.getSystemJavaCompiler();
        try (StandardJavaFileManager files = compiler.getStandardFileManager(null, null, StandardCharsets.UTF_8)) {
            JavacTask task = (JavacTask) compiler.getTask(null, files, null, List.of("-proc:none"), null,
                    files.getJavaFileObjects(SOURCE));
            unit = task.parse().iterator().next();
            task.analyze();
            trees = Trees.instance(task);
            positions = trees.getSourcePositions();
            Rules rules = new Rules();
            rules.scan(unit, null);
            rules.finish();
        }
        System.out.println("LanguageRulesTest: " + passed + " passed, " + failed + " failed");
        if (failed > 0) {
            System.exit(1);
        }
    }

    private static void check(int rule, String what, Tree where, boolean holds) {
        if (holds) {
            passed++;
        } else {
            failed++;
            System.out.println("rule " + rule + ", line " + lineOf(where) + ", not so: " + what);
        }
    }

    private static long lineOf(Tree where) {
        return where == null ? 0 : unit.getLineMap().getLineNumber(positions.getStartPosition(unit, where));
    }

    private static long lastLineOf(Tree where) {
        return unit.getLineMap().getLineNumber(positions.getEndPosition(unit, where));
    }

    private static String textFrom(Tree first, Tree last) {
        return source.substring((int) positions.getStartPosition(unit, first), (int) positions.getEndPosition(unit, last));
    }

    private static boolean isLibrary(Element element) {
        Element outermost = element;
        while (outermost.getEnclosingElement() != null && outermost.getEnclosingElement().getKind() != ElementKind.PACKAGE) {
            outermost = outermost.getEnclosingElement();
        }
        return !outermost.getSimpleName().contentEquals("PartitionCabinet");
    }

    private static String simpleName(TypeMirror type) {
        return type.getKind() == TypeKind.DECLARED ? ((DeclaredType) type).asElement().getSimpleName().toString() : type.toString();
    }

    private static ExpressionTree bare(ExpressionTree tree) {
        ExpressionTree inner = tree;
        while (inner instanceof ParenthesizedTree) {
            inner = ((ParenthesizedTree) inner).getExpression();
        }
        return inner;
    }

    private static final class Rules extends TreePathScanner<Void, Void> {
        private final Map<String, Set<String>> callsOf = new LinkedHashMap<>();
        private final Map<String, Set<String>> overriding = new HashMap<>();
        private final Map<String, Integer> depths = new HashMap<>();
        private final List<String> publicCalls = new ArrayList<>();
        private final Set<String> makers = new HashSet<>();
        private MethodTree method;
        private ExecutableElement methodElement;
        private int classes = 0;
        private int promised = 0;

        // ---- the file as a whole

        void finish() {
            check(11, "at most " + MOST_CLASSES + " classes, not " + classes, null, classes <= MOST_CLASSES);
            check(6, PROMISED + " is named twice, by unrank alone: " + promised, null, promised == 2);
            check(2, "plain ASCII", null, source.chars().allMatch(sign -> sign == '\n' || sign >= 32 && sign < 127));
            for (String call : publicCalls) {
                int depth = depthOf(call, new LinkedHashSet<>());
                check(11, call + " goes " + depth + " calls deep", null, depth <= GREATEST_CALL_DEPTH);
                check(12, call + " makes nothing", null, reached(call, new HashSet<>()).stream().noneMatch(makers::contains));
            }
        }

        private int depthOf(String call, Set<String> open) {
            if (depths.containsKey(call)) {
                return depths.get(call);
            }
            check(8, "no recursion: " + open + " " + call, null, !open.contains(call));
            if (!open.add(call)) {
                return 0;
            }
            int deepest = 0;
            for (String next : callsOf.getOrDefault(call, Set.of())) {
                for (String meant : meantBy(next)) {
                    deepest = Math.max(deepest, depthOf(meant, open));
                }
            }
            open.remove(call);
            depths.put(call, deepest + 1);
            return deepest + 1;
        }

        private Set<String> reached(String call, Set<String> seen) {
            if (seen.add(call)) {
                for (String next : callsOf.getOrDefault(call, Set.of())) {
                    for (String meant : meantBy(next)) {
                        reached(meant, seen);
                    }
                }
            }
            return seen;
        }

        /** The method itself and what overrides it. */
        private Set<String> meantBy(String call) {
            Set<String> meant = new LinkedHashSet<>(overriding.getOrDefault(call, Set.of()));
            meant.add(call);
            return meant;
        }

        // ---- classes, fields, methods

        @Override
        public Void visitClass(ClassTree tree, Void nothing) {
            classes++;
            TreePath above = getCurrentPath().getParentPath();
            check(2, "a class of its own, or inside one", tree, above.getLeaf() == unit || above.getLeaf() instanceof ClassTree);
            check(2, "a plain class", tree, tree.getKind() == Tree.Kind.CLASS && tree.getImplementsClause().isEmpty());
            TypeElement element = (TypeElement) trees.getElement(getCurrentPath());
            check(6, "no class of the library above", tree, simpleName(element.getSuperclass()).equals("Object")
                    || !isLibrary(((DeclaredType) element.getSuperclass()).asElement()));
            int fields = 0;
            for (Tree member : tree.getMembers()) {
                fields += member instanceof VariableTree && !isStatic((VariableTree) member) ? 1 : 0;
            }
            check(11, "at most " + MOST_FIELDS + " fields, not " + fields, tree, fields <= MOST_FIELDS);
            return super.visitClass(tree, nothing);
        }

        private boolean isStatic(VariableTree tree) {
            return tree.getModifiers().getFlags().contains(Modifier.STATIC);
        }

        @Override
        public Void visitBlock(BlockTree tree, Void nothing) {
            check(5, "no initialiser block", tree, !(getCurrentPath().getParentPath().getLeaf() instanceof ClassTree));
            return super.visitBlock(tree, nothing);
        }

        @Override
        public Void visitVariable(VariableTree tree, Void nothing) {
            VariableElement element = (VariableElement) trees.getElement(getCurrentPath());
            check(3, "the type " + element.asType(), tree, isTaken(element.asType(), true));
            if (element.getKind() == ElementKind.FIELD && isStatic(tree)) {
                check(5, "final and told at once", tree, element.getModifiers().contains(Modifier.FINAL)
                        && (element.getConstantValue() != null || isWrittenOut(element.asType(), tree.getInitializer())));
            } else if (element.getKind() == ElementKind.FIELD && !element.asType().getKind().isPrimitive()) {
                check(7, "never null: final", tree, element.getModifiers().contains(Modifier.FINAL));
            }
            return super.visitVariable(tree, nothing);
        }

        private boolean isTaken(TypeMirror type, boolean mayBeArray) {
            if (type.getKind() == TypeKind.ARRAY) {
                return mayBeArray && isTaken(((ArrayType) type).getComponentType(), false);
            }
            return NUMBERS.contains(type.getKind()) || simpleName(type).equals("String")
                    || type.getKind() == TypeKind.DECLARED && !isLibrary(((DeclaredType) type).asElement());
        }

        private boolean isWrittenOut(TypeMirror type, ExpressionTree start) {
            return type.getKind() == TypeKind.ARRAY && ((ArrayType) type).getComponentType().getKind().isPrimitive()
                    && start instanceof NewArrayTree && ((NewArrayTree) start).getInitializers() != null;
        }

        @Override
        public Void visitMethod(MethodTree tree, Void nothing) {
            MethodTree methodAbove = method;
            ExecutableElement elementAbove = methodElement;
            method = tree;
            methodElement = (ExecutableElement) trees.getElement(getCurrentPath());
            long lines = lastLineOf(tree) - lineOf(tree) + 1;
            check(11, "at most " + MOST_LINES + " lines, not " + lines, tree, lines <= MOST_LINES);
            check(11, "at most " + MOST_PARAMETERS + " parameters", tree, tree.getParameters().size() <= MOST_PARAMETERS);
            check(3, "what it answers", tree, methodElement.getReturnType().getKind() == TypeKind.VOID
                    || isTaken(methodElement.getReturnType(), true));
            for (TypeMirror thrown : methodElement.getThrownTypes()) {
                checkException(simpleName(thrown), tree);
            }
            if (methodElement.getModifiers().contains(Modifier.PUBLIC) && !isInConstructor()) {
                publicCalls.add(nameOf(methodElement));
            }
            rememberOverriding();
            super.visitMethod(tree, nothing);
            method = methodAbove;
            methodElement = elementAbove;
            return null;
        }

        private void rememberOverriding() {
            TypeElement above = (TypeElement) methodElement.getEnclosingElement();
            while (above.getSuperclass().getKind() == TypeKind.DECLARED) {
                above = (TypeElement) ((DeclaredType) above.getSuperclass()).asElement();
                String name = above.getSimpleName() + "." + signatureOf(methodElement);
                overriding.computeIfAbsent(name, any -> new LinkedHashSet<>()).add(nameOf(methodElement));
            }
        }

        private String signatureOf(ExecutableElement element) {
            List<String> kinds = new ArrayList<>();
            for (VariableElement parameter : element.getParameters()) {
                kinds.add(parameter.asType().toString());
            }
            return element.getSimpleName() + "(" + String.join(",", kinds) + ")";
        }

        private String nameOf(ExecutableElement element) {
            return element.getEnclosingElement().getSimpleName() + "." + signatureOf(element);
        }

        private boolean isInConstructor() {
            return methodElement != null && methodElement.getKind() == ElementKind.CONSTRUCTOR;
        }

        // ---- calls and what is made

        @Override
        public Void visitMethodInvocation(MethodInvocationTree tree, Void nothing) {
            ExecutableElement called = (ExecutableElement) trees.getElement(getCurrentPath());
            boolean isSuper = called.getKind() == ElementKind.CONSTRUCTOR;
            if (isLibrary(called)) {
                check(4, nameOf(called), tree, isSuper || LISTED_CALLS.contains(nameOf(called)));
            } else if (methodElement != null) {
                callsOf.computeIfAbsent(nameOf(methodElement), any -> new LinkedHashSet<>()).add(nameOf(called));
                check(12, "the constructor calls only what none overrides", tree, !isInConstructor() || isSuper
                        || called.getModifiers().contains(Modifier.STATIC));
            }
            if (called.getSimpleName().toString().startsWith("floor")) {
                checkDivisor(tree.getArguments().get(1));
            }
            return super.visitMethodInvocation(tree, nothing);
        }

        @Override
        public Void visitNewClass(NewClassTree tree, Void nothing) {
            ExecutableElement made = (ExecutableElement) trees.getElement(getCurrentPath());
            if (getCurrentPath().getParentPath().getLeaf() instanceof ThrowTree) {
                checkException(simpleName(made.getEnclosingElement().asType()), tree);
                check(6, "nothing or a written text", tree, tree.getArguments().size() <= 1 && tree.getClassBody() == null
                        && tree.getArguments().stream().allMatch(text -> text.getKind() == Tree.Kind.STRING_LITERAL));
            } else {
                check(4, "made of a class of the file's own", tree, !isLibrary(made.getEnclosingElement()));
                rememberMaker();
            }
            return super.visitNewClass(tree, nothing);
        }

        @Override
        public Void visitNewArray(NewArrayTree tree, Void nothing) {
            rememberMaker();
            return super.visitNewArray(tree, nothing);
        }

        private void rememberMaker() {
            if (methodElement != null) {
                makers.add(nameOf(methodElement));
            }
        }

        private void checkException(String name, Tree where) {
            boolean isPromised = name.equals(PROMISED) && method.getName().contentEquals("unrank");
            promised += isPromised ? 1 : 0;
            check(6, "the exception " + name, where, isPromised || LISTED_EXCEPTIONS.contains(name));
        }

        @Override
        public Void visitThrow(ThrowTree tree, Void nothing) {
            check(6, "throw new", tree, tree.getExpression() instanceof NewClassTree);
            check(6, "no throw in a constructor", tree, !isInConstructor());
            return super.visitThrow(tree, nothing);
        }

        // ---- what the class has not

        @Override
        public Void visitTry(TryTree tree, Void nothing) {
            check(6, "no try: no call of a method that throws is caught", tree, false);
            return super.visitTry(tree, nothing);
        }

        @Override
        public Void visitSynchronized(SynchronizedTree tree, Void nothing) {
            check(6, "no synchronized", tree, false);
            return super.visitSynchronized(tree, nothing);
        }

        @Override
        public Void visitAssert(AssertTree tree, Void nothing) {
            check(6, "no assert", tree, false);
            return super.visitAssert(tree, nothing);
        }

        @Override
        public Void visitLambdaExpression(LambdaExpressionTree tree, Void nothing) {
            check(2, "no lambda", tree, false);
            return super.visitLambdaExpression(tree, nothing);
        }

        @Override
        public Void visitMemberReference(MemberReferenceTree tree, Void nothing) {
            check(2, "no method reference", tree, false);
            return super.visitMemberReference(tree, nothing);
        }

        @Override
        public Void visitMemberSelect(MemberSelectTree tree, Void nothing) {
            Element element = trees.getElement(getCurrentPath());
            boolean isLength = tree.getIdentifier().contentEquals("length");
            if (element != null && element.getKind() == ElementKind.FIELD) {
                check(4, "no field of the library: " + tree, tree, isLength || !isLibrary(element));
            }
            return super.visitMemberSelect(tree, nothing);
        }

        @Override
        public Void visitIdentifier(IdentifierTree tree, Void nothing) {
            check(12, "the constructor does not hand itself out", tree, !isInConstructor() || !tree.getName().contentEquals("this"));
            return super.visitIdentifier(tree, nothing);
        }

        @Override
        public Void visitTypeCast(TypeCastTree tree, Void nothing) {
            check(6, "casts of numbers alone", tree, trees.getTypeMirror(getCurrentPath()).getKind().isPrimitive());
            return super.visitTypeCast(tree, nothing);
        }

        @Override
        public Void visitLiteral(LiteralTree tree, Void nothing) {
            if (tree.getKind() == Tree.Kind.STRING_LITERAL) {
                check(4, "signs 1 to 127", tree, tree.getValue().toString().chars().allMatch(sign -> sign > 0 && sign < 128));
            }
            return super.visitLiteral(tree, nothing);
        }

        // ---- sums, divisors, indices

        @Override
        public Void visitBinary(BinaryTree tree, Void nothing) {
            boolean isOfTexts = isText(tree.getLeftOperand()) || isText(tree.getRightOperand());
            check(10, "no texts joined by +, none compared by ==", tree, !isOfTexts);
            if (tree.getKind() == Tree.Kind.DIVIDE || tree.getKind() == Tree.Kind.REMAINDER) {
                checkDivisor(tree.getRightOperand());
            }
            return super.visitBinary(tree, nothing);
        }

        private boolean isText(ExpressionTree tree) {
            TypeMirror type = trees.getTypeMirror(new TreePath(getCurrentPath(), tree));
            return type != null && (simpleName(type).equals("String") || simpleName(type).equals("Integer"));
        }

        @Override
        public Void visitCompoundAssignment(CompoundAssignmentTree tree, Void nothing) {
            if (tree.getKind() == Tree.Kind.DIVIDE_ASSIGNMENT || tree.getKind() == Tree.Kind.REMAINDER_ASSIGNMENT) {
                checkDivisor(tree.getExpression());
            }
            checkNoConstant(tree.getVariable());
            return super.visitCompoundAssignment(tree, nothing);
        }

        @Override
        public Void visitAssignment(AssignmentTree tree, Void nothing) {
            checkNoConstant(tree.getVariable());
            return super.visitAssignment(tree, nothing);
        }

        @Override
        public Void visitUnary(UnaryTree tree, Void nothing) {
            checkNoConstant(tree.getExpression());
            return super.visitUnary(tree, nothing);
        }

        private void checkNoConstant(ExpressionTree changed) {
            if (changed instanceof ArrayAccessTree) {
                ExpressionTree array = ((ArrayAccessTree) changed).getExpression();
                check(5, "no array of constants is changed", changed, !array.toString().matches("[A-Z_]+"));
            }
        }

        /** A number, a sum with one, or a name that is looked at ahead of it in the method. */
        private void checkDivisor(ExpressionTree divisor) {
            String text = divisor.toString().replaceAll("^\\((long|int)\\)", "");
            boolean isTold = text.matches("[1-9]\\d*L?|[A-Z_]+|\\(?Math\\.max\\(0, .*\\) \\+ 1\\)?");
            check(7, "the divisor " + text + " is looked at", divisor, isTold || isFound(ahead(divisor),
                    "\\b" + Pattern.quote(text) + " (> [01]|<= 0)|\\b" + Pattern.quote(text) + " = Math\\.max\\(1, "));
        }

        private String ahead(Tree tree) {
            int start = (int) positions.getStartPosition(unit, method);
            // what is looked at in the same statement stands ahead of the number that it is for
            return source.substring(start, (int) positions.getEndPosition(unit, tree));
        }

        private boolean isFound(String text, String pattern) {
            return Pattern.compile(pattern).matcher(text).find();
        }

        /** Each name in an index is looked at ahead of it in the method, against both ends. */
        @Override
        public Void visitArrayAccess(ArrayAccessTree tree, Void nothing) {
            Matcher names = Pattern.compile("\\b[a-z]\\w*").matcher(tree.getIndex().toString());
            while (names.find()) {
                String name = Pattern.quote(names.group());
                check(7, "the index " + names.group() + " is below something", tree, isFound(ahead(tree),
                        "\\b" + name + "( \\+ \\w+)? <=? |\\b" + name + " >=? [A-Z_]\\w+|\\b" + name + " = (Math\\.min|last)\\b"));
                check(7, "the index " + names.group() + " is not below 0", tree, isFound(ahead(tree),
                        "\\b" + name + " (>=|>|<) 0\\b|\\b" + name + " < 1\\b|\\bint " + name + " = [0-9]"));
            }
            return super.visitArrayAccess(tree, nothing);
        }

        // ---- loops

        @Override
        public Void visitForLoop(ForLoopTree tree, Void nothing) {
            check(9, "an end that can be seen", tree, tree.getCondition() != null && tree.getUpdate().size() == 1
                    && hasEnd(tree.getCondition(), tree.getUpdate().get(0).toString()));
            return super.visitForLoop(tree, nothing);
        }

        @Override
        public Void visitWhileLoop(WhileLoopTree tree, Void nothing) {
            check(9, "an end that can be seen", tree, hasEnd(tree.getCondition(), tree.getStatement().toString()));
            return super.visitWhileLoop(tree, nothing);
        }

        @Override
        public Void visitDoWhileLoop(DoWhileLoopTree tree, Void nothing) {
            check(9, "no loop that looks at its end behind", tree, false);
            return super.visitDoWhileLoop(tree, nothing);
        }

        @Override
        public Void visitEnhancedForLoop(EnhancedForLoopTree tree, Void nothing) {
            check(9, "loops by a counter", tree, false);
            return super.visitEnhancedForLoop(tree, nothing);
        }

        /** Whether a condition holds a counter, that the steps change by a number each time, against a bound. */
        private boolean hasEnd(ExpressionTree condition, String steps) {
            ExpressionTree tree = bare(condition);
            if (tree.getKind() == Tree.Kind.CONDITIONAL_AND) {
                BinaryTree both = (BinaryTree) tree;
                return hasEnd(both.getLeftOperand(), steps) || hasEnd(both.getRightOperand(), steps);
            }
            if (tree.getKind() == Tree.Kind.CONDITIONAL_OR) {
                BinaryTree both = (BinaryTree) tree;
                return hasEnd(both.getLeftOperand(), steps) && hasEnd(both.getRightOperand(), steps);
            }
            boolean goesUp = tree.getKind() == Tree.Kind.LESS_THAN || tree.getKind() == Tree.Kind.LESS_THAN_EQUAL;
            boolean goesDown = tree.getKind() == Tree.Kind.GREATER_THAN || tree.getKind() == Tree.Kind.GREATER_THAN_EQUAL;
            if (!goesUp && !goesDown) {
                return false;
            }
            String counter = Pattern.quote(((BinaryTree) tree).getLeftOperand().toString());
            return isFound(steps, "\\b" + counter + (goesUp ? "(\\+\\+| \\+= [1-9])" : "(--| -= [1-9])"));
        }
    }
}
