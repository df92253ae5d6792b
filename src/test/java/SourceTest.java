import com.sun.source.tree.BinaryTree;
import com.sun.source.tree.ClassTree;
import com.sun.source.tree.CompilationUnitTree;
import com.sun.source.tree.ConditionalExpressionTree;
import com.sun.source.tree.LiteralTree;
import com.sun.source.tree.MethodInvocationTree;
import com.sun.source.tree.MethodTree;
import com.sun.source.tree.NewArrayTree;
import com.sun.source.tree.NewClassTree;
import com.sun.source.tree.ParenthesizedTree;
import com.sun.source.tree.Tree;
import com.sun.source.tree.TypeCastTree;
import com.sun.source.tree.VariableTree;
import com.sun.source.util.JavacTask;
import com.sun.source.util.SourcePositions;
import com.sun.source.util.TreePath;
import com.sun.source.util.TreePathScanner;
import com.sun.source.util.Trees;
import java.io.IOException;
import java.nio.file.Path;
import java.util.HashMap;
import java.util.HashSet;
import java.util.List;
import java.util.Map;
import java.util.Set;
import javax.lang.model.element.Element;
import javax.lang.model.element.ElementKind;
import javax.lang.model.element.Modifier;
import javax.lang.model.element.VariableElement;
import javax.lang.model.type.ArrayType;
import javax.lang.model.type.TypeKind;
import javax.lang.model.type.TypeMirror;
import javax.tools.JavaCompiler;
import javax.tools.StandardJavaFileManager;
import javax.tools.ToolProvider;

/**
 * The rules of LANGUAGE.md about what stands in classes and methods, looked up in the tree that javac reads.
 * Where the class needs less than a rule allows (no rows of numbers as constants, no texts, no lists, nothing
 * that a call makes), less is asked for.
 */
public final class SourceTest {
    private static final String SOURCE = "src/main/java/LocoFrames.java";
    private static final Set<String> LIBRARY = Set.of("System.arraycopy", "Math.abs", "Math.floorDiv", "Math.floorMod",
        "Math.max", "Math.min", "Object.<init>");
    private static final Set<Tree.Kind> RULED_OUT = Set.of(Tree.Kind.IMPORT, Tree.Kind.PACKAGE, Tree.Kind.THROW,
        Tree.Kind.TRY, Tree.Kind.CATCH, Tree.Kind.SYNCHRONIZED, Tree.Kind.ASSERT, Tree.Kind.LAMBDA_EXPRESSION,
        Tree.Kind.MEMBER_REFERENCE, Tree.Kind.STRING_LITERAL, Tree.Kind.ANNOTATION, Tree.Kind.INSTANCE_OF);
    private static final int MOST_LINES = 60, MOST_PARAMETERS = 7, MOST_DEPTH = 8, MOST_CLASSES = 12, MOST_FIELDS = 20;

    public static void main(String[] args) throws IOException {
        JavaCompiler compiler = ToolProvider.getSystemJavaCompiler();
        try (StandardJavaFileManager files = compiler.getStandardFileManager(null, null, null)) {
            JavacTask task = (JavacTask) compiler.getTask(null, files, null, List.of("-proc:none"), null,
                files.getJavaFileObjects(Path.of(SOURCE)));
            CompilationUnitTree unit = task.parse().iterator().next();
            task.analyze();
            Look look = new Look(Trees.instance(task), unit);
            look.scan(unit, null);
            look.end();
        }
        Due.end();
    }

    private static void holds(String what, boolean held) {
        Due.is(what, held ? 1 : 0, 1);
    }

    private static final class Look extends TreePathScanner<Void, Void> {
        private final Trees trees;
        private final CompilationUnitTree unit;
        private final Set<Element> classes = new HashSet<>();
        private final Map<Element, Set<Element>> calls = new HashMap<>();
        private Element method;

        Look(Trees trees, CompilationUnitTree unit) {
            this.trees = trees;
            this.unit = unit;
        }

        private Element element() {
            return trees.getElement(getCurrentPath());
        }

        private TypeMirror typeOf(Tree tree) {
            return trees.getTypeMirror(new TreePath(getCurrentPath(), tree));
        }

        private long lineOf(long position) {
            return unit.getLineMap().getLineNumber(position);
        }

        private String where(Tree tree) {
            return "line " + lineOf(trees.getSourcePositions().getStartPosition(unit, tree)) + ": ";
        }

        @Override
        public Void scan(Tree tree, Void none) {
            if (tree != null) {
                holds(where(tree) + "rules 4, 6: " + tree.getKind(), !RULED_OUT.contains(tree.getKind()));
            }
            return super.scan(tree, none);
        }

        /** Rules 1, 2, 11: private static classes, none of them in a method, and not too many fields. */
        @Override
        public Void visitClass(ClassTree tree, Void none) {
            Element one = element();
            classes.add(one);
            boolean outermost = one.getEnclosingElement().getKind() == ElementKind.PACKAGE;
            boolean inside = one.getModifiers().containsAll(Set.of(Modifier.PRIVATE, Modifier.STATIC));
            holds("rule 2: " + one, outermost || inside && one.getEnclosingElement().getKind() == ElementKind.CLASS);
            int fields = 0;
            for (Tree member : tree.getMembers()) {
                holds("rule 5, no initialiser block: " + one, member.getKind() != Tree.Kind.BLOCK);
                boolean constant = member instanceof VariableTree field
                    && field.getModifiers().getFlags().contains(Modifier.STATIC);
                fields += member.getKind() == Tree.Kind.VARIABLE && !constant ? 1 : 0;
            }
            holds("rule 11, fields of " + one, fields <= MOST_FIELDS);
            return super.visitClass(tree, none);
        }

        /** Rule 11: few parameters, few lines. */
        @Override
        public Void visitMethod(MethodTree tree, Void none) {
            Element outer = method;
            method = element();
            calls.put(method, new HashSet<>());
            holds("rule 11, parameters of " + method, tree.getParameters().size() <= MOST_PARAMETERS);
            SourcePositions at = trees.getSourcePositions();
            long lines = lineOf(Math.max(0, at.getEndPosition(unit, tree))) - lineOf(at.getStartPosition(unit, tree)) + 1;
            holds("rule 11, lines of " + method, lines <= MOST_LINES);
            super.visitMethod(tree, none);
            method = outer;
            return null;
        }

        /** Rules 3 and 5: the types of all that is kept or handed on. */
        @Override
        public Void visitVariable(VariableTree tree, Void none) {
            Element one = element();
            holds(where(tree) + "rule 3: " + tree, known(one.asType()));
            if (one.getModifiers().contains(Modifier.STATIC)) {
                boolean constant = ((VariableElement) one).getConstantValue() != null;
                holds(where(tree) + "rule 5: " + tree, constant && one.getModifiers().contains(Modifier.FINAL));
            }
            return super.visitVariable(tree, none);
        }

        /** A number, a class of this file, or a row of them. */
        private boolean known(TypeMirror type) {
            if (type.getKind() == TypeKind.ARRAY) {
                TypeMirror part = ((ArrayType) type).getComponentType();
                return part.getKind() != TypeKind.ARRAY && known(part);
            }
            return type.getKind().isPrimitive() || type.toString().startsWith("LocoFrames.");
        }

        /** Rule 4: no library but what is listed. */
        @Override
        public Void visitMethodInvocation(MethodInvocationTree tree, Void none) {
            Element called = element();
            Element owner = called.getEnclosingElement();
            String name = owner.getSimpleName() + "." + called.getSimpleName();
            boolean own = owner.toString().startsWith("LocoFrames");
            holds(where(tree) + "rule 4: " + name, own || LIBRARY.contains(name));
            if (own && method != null) {
                calls.get(method).add(called);
            }
            return super.visitMethodInvocation(tree, none);
        }

        /** Rule 12, more strictly: objects and rows are made in constructors and fields alone, not by calls. */
        @Override
        public Void visitNewClass(NewClassTree tree, Void none) {
            holds(where(tree) + "rule 12: " + tree, tree.getClassBody() == null && makes());
            return super.visitNewClass(tree, none);
        }

        @Override
        public Void visitNewArray(NewArrayTree tree, Void none) {
            holds(where(tree) + "rule 12: " + tree, makes());
            return super.visitNewArray(tree, none);
        }

        private boolean makes() {
            return method == null || method.getKind() == ElementKind.CONSTRUCTOR;
        }

        /** Rule 7: a cast is one of numbers, so that it can't fail. */
        @Override
        public Void visitTypeCast(TypeCastTree tree, Void none) {
            holds(where(tree) + "rule 7: " + tree, typeOf(tree.getType()).getKind().isPrimitive());
            return super.visitTypeCast(tree, none);
        }

        /** Rule 7: a divisor is a constant, or the condition ahead of it says that it is above 0. */
        @Override
        public Void visitBinary(BinaryTree tree, Void none) {
            if (tree.getKind() == Tree.Kind.DIVIDE || tree.getKind() == Tree.Kind.REMAINDER) {
                holds(where(tree) + "rule 7: " + tree, isConstant(tree.getRightOperand()) || isGuarded(tree));
            }
            return super.visitBinary(tree, none);
        }

        private boolean isConstant(Tree divisor) {
            Tree bare = divisor;
            while (bare instanceof ParenthesizedTree wrapped) {
                bare = wrapped.getExpression();
            }
            if (bare instanceof BinaryTree sum) {
                return sum.getKind() == Tree.Kind.PLUS && isConstant(sum.getLeftOperand())
                    && isConstant(sum.getRightOperand());
            }
            if (bare instanceof LiteralTree literal) {
                return literal.getValue() instanceof Integer number && number > 0;
            }
            Element named = trees.getElement(new TreePath(getCurrentPath(), bare));
            return named instanceof VariableElement variable
                && variable.getConstantValue() instanceof Integer number && number > 0;
        }

        private boolean isGuarded(BinaryTree tree) {
            Tree above = getCurrentPath().getParentPath().getLeaf();
            return above instanceof ConditionalExpressionTree choice && choice.getTrueExpression() == tree
                && choice.getCondition().toString().equals(tree.getRightOperand() + " > 0");
        }

        /** Rules 8 and 11: no method calls itself, and calls go at most eight deep. */
        void end() {
            holds("rule 11, classes", classes.size() <= MOST_CLASSES);
            for (Element each : calls.keySet()) {
                holds("rules 8, 11: calls from " + each, depth(each, 1) <= MOST_DEPTH);
            }
            holds("methods were looked at", calls.size() > 23);
        }

        /** Beyond the depth the looking ends, so that it ends for a recursion, too. */
        private int depth(Element from, int sofar) {
            int most = sofar;
            if (sofar <= MOST_DEPTH) {
                for (Element called : calls.getOrDefault(from, Set.of())) {
                    most = Math.max(most, depth(called, sofar + 1));
                }
            }
            return most;
        }
    }
}
