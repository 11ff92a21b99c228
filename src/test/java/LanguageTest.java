import com.sun.source.tree.ArrayAccessTree;
import com.sun.source.tree.AssignmentTree;
import com.sun.source.tree.BinaryTree;
import com.sun.source.tree.BlockTree;
import com.sun.source.tree.ClassTree;
import com.sun.source.tree.CompilationUnitTree;
import com.sun.source.tree.CompoundAssignmentTree;
import com.sun.source.tree.ExpressionTree;
import com.sun.source.tree.ForLoopTree;
import com.sun.source.tree.IdentifierTree;
import com.sun.source.tree.LiteralTree;
import com.sun.source.tree.MethodInvocationTree;
import com.sun.source.tree.MethodTree;
import com.sun.source.tree.ModifiersTree;
import com.sun.source.tree.NewArrayTree;
import com.sun.source.tree.NewClassTree;
import com.sun.source.tree.Tree;
import com.sun.source.tree.TypeCastTree;
import com.sun.source.tree.UnaryTree;
import com.sun.source.tree.VariableTree;
import com.sun.source.util.JavacTask;
import com.sun.source.util.TreePath;
import com.sun.source.util.TreePathScanner;
import com.sun.source.util.TreeScanner;
import com.sun.source.util.Trees;
import java.nio.file.Path;
import java.util.HashSet;
import java.util.LinkedHashMap;
import java.util.List;
import java.util.Map;
import java.util.Set;
import java.util.TreeSet;
import javax.lang.model.element.Element;
import javax.lang.model.element.ElementKind;
import javax.lang.model.element.Modifier;
import javax.lang.model.element.VariableElement;
import javax.lang.model.type.ArrayType;
import javax.lang.model.type.DeclaredType;
import javax.lang.model.type.TypeKind;
import javax.lang.model.type.TypeMirror;
import javax.tools.JavaCompiler;
import javax.tools.StandardJavaFileManager;
import javax.tools.ToolProvider;

/** ../shared/LANGUAGE.md, by its numbers, held against the file as the compiler reads it. */
public final class LanguageTest {
    private static final Path FILE = Path.of("src/main/java/RainAccount.java");
    private static final int MOST_LINES = 60, MOST_PARAMETERS = 7, MOST_DEEP = 8, MOST_CLASSES = 12, MOST_FIELDS = 20;
    /** What stands in the file and in the language; less than the language has. */
    private static final Set<String> KINDS = Set.of(
            "COMPILATION_UNIT", "CLASS", "METHOD", "VARIABLE", "MODIFIERS", "PRIMITIVE_TYPE", "ARRAY_TYPE",
            "IDENTIFIER", "MEMBER_SELECT", "METHOD_INVOCATION", "NEW_CLASS", "NEW_ARRAY", "ARRAY_ACCESS", "TYPE_CAST",
            "INT_LITERAL", "LONG_LITERAL", "CHAR_LITERAL", "BOOLEAN_LITERAL", "BLOCK", "EXPRESSION_STATEMENT", "IF",
            "FOR_LOOP", "SWITCH", "CASE", "RETURN", "BREAK", "CONTINUE", "PARENTHESIZED", "CONDITIONAL_EXPRESSION",
            "CONSTANT_CASE_LABEL", "DEFAULT_CASE_LABEL",
            "ASSIGNMENT", "PLUS_ASSIGNMENT", "MINUS_ASSIGNMENT", "MULTIPLY_ASSIGNMENT", "AND_ASSIGNMENT",
            "OR_ASSIGNMENT", "POSTFIX_INCREMENT", "POSTFIX_DECREMENT", "UNARY_MINUS", "BITWISE_COMPLEMENT",
            "LOGICAL_COMPLEMENT", "PLUS", "MINUS", "MULTIPLY", "DIVIDE", "REMAINDER", "LEFT_SHIFT", "RIGHT_SHIFT",
            "AND", "OR", "CONDITIONAL_AND", "CONDITIONAL_OR", "EQUAL_TO", "NOT_EQUAL_TO", "LESS_THAN",
            "LESS_THAN_EQUAL", "GREATER_THAN", "GREATER_THAN_EQUAL");
    private static final Set<TypeKind> NUMBERS =
            Set.of(TypeKind.INT, TypeKind.LONG, TypeKind.SHORT, TypeKind.BYTE, TypeKind.CHAR, TypeKind.BOOLEAN);
    private static final Set<String> LIBRARY = Set.of("java.lang.Math.max", "java.lang.Math.min",
            "java.lang.System.arraycopy");
    private static final Set<Modifier> MODIFIERS =
            Set.of(Modifier.PUBLIC, Modifier.PRIVATE, Modifier.STATIC, Modifier.FINAL);
    /** Divisors that are no constants, by their methods; each stands behind a test that it is not 0. */
    private static final Set<String> TESTED_DIVISORS = Set.of("commonDivisor: low", "awaited: common");

    private static final Check check = new Check();

    private final CompilationUnitTree unit;
    private final Trees trees;
    private final Map<Element, Set<Element>> calls = new LinkedHashMap<>();

    private LanguageTest(CompilationUnitTree unit, Trees trees) {
        this.unit = unit;
        this.trees = trees;
    }

    public static void main(String[] args) throws Exception {
        JavaCompiler compiler = ToolProvider.getSystemJavaCompiler();
        try (StandardJavaFileManager files = compiler.getStandardFileManager(null, null, null)) {
            JavacTask task = (JavacTask) compiler.getTask(null, files, null, List.of("-proc:none"), null,
                    files.getJavaFileObjects(FILE));
            CompilationUnitTree unit = task.parse().iterator().next();
            task.analyze();
            new LanguageTest(unit, Trees.instance(task)).run();
        }
        check.end();
    }

    private void run() {
        check.yes("rule 1: one class in the file, no package, no import", unit.getTypeDecls().size() == 1
                && unit.getPackage() == null && unit.getImports().isEmpty());
        Reader reader = new Reader();
        reader.scan(unit, null);
        check.yes("rule 11: some twelve classes, there are " + reader.classes, reader.classes <= MOST_CLASSES);
        check.yes("the reader saw the file", reader.methods > 60 && reader.loops > 30 && reader.divisions > 8);
        Set<Element> known = new HashSet<>(calls.keySet());
        for (Element method : known) {
            int deep = depth(method, new HashSet<>());
            check.yes("rule 11: " + deep + " deep: " + method, deep <= MOST_DEEP);
        }
    }

    /** How many calls stand open at most, this one counted. */
    private int depth(Element method, Set<Element> open) {
        if (!open.add(method)) {
            check.yes("rule 8: a call that comes back to " + method, false);
            return 0;
        }
        int most = 0;
        for (Element called : calls.getOrDefault(method, Set.of())) {
            most = Math.max(most, depth(called, open));
        }
        open.remove(method);
        return most + 1;
    }

    private boolean isOwn(Element type) {
        Element e = type;
        while (e.getEnclosingElement() != null && e.getEnclosingElement().getKind() == ElementKind.CLASS) {
            e = e.getEnclosingElement();
        }
        return e.getSimpleName().contentEquals("RainAccount");
    }

    private boolean isType(TypeMirror type) {
        if (type.getKind() == TypeKind.ARRAY) {
            TypeMirror part = ((ArrayType) type).getComponentType();
            return part.getKind() != TypeKind.ARRAY && isType(part);
        }
        return NUMBERS.contains(type.getKind())
                || type.getKind() == TypeKind.DECLARED && isOwn(((DeclaredType) type).asElement());
    }

    private long line(Tree tree) {
        return unit.getLineMap().getLineNumber(trees.getSourcePositions().getStartPosition(unit, tree));
    }

    private long lastLine(Tree tree) {
        return unit.getLineMap().getLineNumber(trees.getSourcePositions().getEndPosition(unit, tree));
    }

    /** Names that a tree writes to. */
    private static Set<String> written(Tree tree) {
        Set<String> names = new TreeSet<>();
        new TreeScanner<Void, Void>() {
            @Override
            public Void visitAssignment(AssignmentTree t, Void v) {
                names.add(t.getVariable().toString());
                return super.visitAssignment(t, v);
            }

            @Override
            public Void visitCompoundAssignment(CompoundAssignmentTree t, Void v) {
                names.add(t.getVariable().toString());
                return super.visitCompoundAssignment(t, v);
            }

            @Override
            public Void visitUnary(UnaryTree t, Void v) {
                if (t.getKind().name().endsWith("CREMENT")) {
                    names.add(t.getExpression().toString());
                }
                return super.visitUnary(t, v);
            }
        }.scan(tree, null);
        return names;
    }

    private final class Reader extends TreePathScanner<Void, Void> {
        int classes = 0;
        int methods = 0;
        int loops = 0;
        int divisions = 0;
        private Element method = null;

        private void yes(Tree tree, String rule, boolean holds) {
            check.yes(rule + ", line " + line(tree) + ": " + tree.toString().lines().findFirst().orElse(""), holds);
        }

        private Element element(Tree tree) {
            return trees.getElement(TreePath.getPath(unit, tree));
        }

        @Override
        public Void scan(Tree tree, Void v) {
            if (tree != null) {
                yes(tree, "rules 2, 6, 10: " + tree.getKind(), KINDS.contains(tree.getKind().name()));
            }
            return super.scan(tree, v);
        }

        @Override
        public Void visitModifiers(ModifiersTree t, Void v) {
            yes(t, "rules 5, 6: " + t.getFlags(), MODIFIERS.containsAll(t.getFlags()));
            return super.visitModifiers(t, v);
        }

        @Override
        public Void visitBlock(BlockTree t, Void v) {
            boolean bare = getCurrentPath().getParentPath().getLeaf() instanceof ClassTree;
            yes(t, "rule 5: a block of a class itself", !bare);
            return super.visitBlock(t, v);
        }

        @Override
        public Void visitClass(ClassTree t, Void v) {
            classes++;
            Element c = element(t);
            boolean outer = c.getSimpleName().contentEquals("RainAccount");
            yes(t, "rule 1: static inside", outer || c.getModifiers().contains(Modifier.STATIC));
            yes(t, "rule 2: inside the class itself", outer || c.getEnclosingElement().getKind() == ElementKind.CLASS);
            long fields = c.getEnclosedElements().stream().filter(e -> e.getKind() == ElementKind.FIELD)
                    .filter(e -> !e.getModifiers().contains(Modifier.STATIC)).count();
            yes(t, "rule 11: fields", fields <= MOST_FIELDS);
            return super.visitClass(t, v);
        }

        @Override
        public Void visitMethod(MethodTree t, Void v) {
            methods++;
            method = element(t);
            calls.putIfAbsent(method, new HashSet<>());
            yes(t, "rule 6: throws", t.getThrows().isEmpty());
            yes(t, "rule 11: parameters", t.getParameters().size() <= MOST_PARAMETERS);
            yes(t, "rule 11: lines", lastLine(t) - line(t) < MOST_LINES);
            yes(t, "rule 3", t.getReturnType() == null || t.getReturnType().toString().equals("void")
                    || isType(trees.getTypeMirror(new TreePath(getCurrentPath(), t.getReturnType()))));
            super.visitMethod(t, v);
            method = null;
            return null;
        }

        @Override
        public Void visitVariable(VariableTree t, Void v) {
            Element e = element(t);
            yes(t, "rule 3: a type", isType(e.asType()));
            if (e.getModifiers().contains(Modifier.STATIC)) {
                boolean constant = e.getModifiers().contains(Modifier.FINAL)
                        && ((VariableElement) e).getConstantValue() != null;
                yes(t, "rule 5: a constant", constant);
            }
            return super.visitVariable(t, v);
        }

        @Override
        public Void visitMethodInvocation(MethodInvocationTree t, Void v) {
            Element called = element(t);
            Element of = called.getEnclosingElement();
            boolean superOfNew = called.getKind() == ElementKind.CONSTRUCTOR && of.toString().equals("java.lang.Object");
            boolean own = isOwn(of);
            yes(t, "rule 4", own || superOfNew || LIBRARY.contains(of + "." + called.getSimpleName()));
            yes(t, "rule 12: a constructor calls", superOfNew || method == null
                    || method.getKind() != ElementKind.CONSTRUCTOR);
            if (own && method != null) {
                calls.get(method).add(called);
            }
            return super.visitMethodInvocation(t, v);
        }

        @Override
        public Void visitNewClass(NewClassTree t, Void v) {
            Element made = element(t);
            yes(t, "rule 2: no body", t.getClassBody() == null);
            yes(t, "rule 4", isOwn(made.getEnclosingElement()));
            made(t);
            return super.visitNewClass(t, v);
        }

        @Override
        public Void visitNewArray(NewArrayTree t, Void v) {
            boolean fixed = t.getInitializers() == null && t.getDimensions().size() == 1
                    && constant(t.getDimensions().get(0)) != null;
            yes(t, "rules 3, 12: a row of a fixed length", fixed);
            made(t);
            return super.visitNewArray(t, v);
        }

        /** All calls of a run live in one room: only constructors, and fields that begin with one, make anything. */
        private void made(Tree t) {
            yes(t, "rule 12: a call makes it", method == null || method.getKind() == ElementKind.CONSTRUCTOR);
            if (method != null && t instanceof NewClassTree) {
                calls.get(method).add(element(t));
            }
        }

        @Override
        public Void visitTypeCast(TypeCastTree t, Void v) {
            yes(t, "rule 6: a cast of numbers", t.getType().getKind() == Tree.Kind.PRIMITIVE_TYPE);
            return super.visitTypeCast(t, v);
        }

        @Override
        public Void visitForLoop(ForLoopTree t, Void v) {
            loops++;
            boolean whole = t.getInitializer().size() == 1 && t.getUpdate().size() == 1 && t.getCondition() != null
                    && t.getInitializer().get(0) instanceof VariableTree;
            yes(t, "rule 9: a counter against a bound", whole);
            if (whole) {
                String counter = ((VariableTree) t.getInitializer().get(0)).getName().toString();
                String update = t.getUpdate().get(0).toString();
                String condition = t.getCondition().toString();
                boolean up = update.equals(counter + "++;") && condition.matches("\\(?" + counter + " <=? .*");
                boolean down = update.equals(counter + "--;") && condition.equals(counter + " >= 0");
                yes(t, "rule 9: it goes on to the bound", up || down);
                yes(t, "rule 9: nothing else moves it", !written(t.getStatement()).contains(counter));
                yes(t, "rule 9: the bound is no call", !condition.contains("("));
            }
            return super.visitForLoop(t, v);
        }

        @Override
        public Void visitBinary(BinaryTree t, Void v) {
            if (t.getKind() == Tree.Kind.DIVIDE || t.getKind() == Tree.Kind.REMAINDER) {
                divisions++;
                Object by = constant(t.getRightOperand());
                boolean tested = t.getRightOperand() instanceof IdentifierTree && method != null
                        && TESTED_DIVISORS.contains(method.getSimpleName() + ": " + t.getRightOperand());
                yes(t, "rule 7: a divisor", tested || by instanceof Number && ((Number) by).longValue() > 0);
            }
            TypeMirror left = trees.getTypeMirror(new TreePath(getCurrentPath(), t.getLeftOperand()));
            yes(t, "rules 3, 10: of numbers", NUMBERS.contains(left.getKind()));
            return super.visitBinary(t, v);
        }

        @Override
        public Void visitCompoundAssignment(CompoundAssignmentTree t, Void v) {
            yes(t, "rule 7: a divisor", t.getKind() != Tree.Kind.DIVIDE_ASSIGNMENT
                    && t.getKind() != Tree.Kind.REMAINDER_ASSIGNMENT);
            return super.visitCompoundAssignment(t, v);
        }

        @Override
        public Void visitArrayAccess(ArrayAccessTree t, Void v) {
            yes(t, "rule 7: an index is no call", !t.getIndex().toString().contains("("));
            return super.visitArrayAccess(t, v);
        }

        /** What an expression of names and numbers is always, as the compiler folds it; null if it is not told. */
        private Object constant(ExpressionTree t) {
            if (t instanceof LiteralTree literal) {
                return literal.getValue();
            }
            Element e = element(t);
            return e instanceof VariableElement named ? named.getConstantValue() : null;
        }
    }
}
