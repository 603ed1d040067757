import com.sun.source.tree.AssertTree;
import com.sun.source.tree.BinaryTree;
import com.sun.source.tree.CatchTree;
import com.sun.source.tree.ClassTree;
import com.sun.source.tree.CompilationUnitTree;
import com.sun.source.tree.CompoundAssignmentTree;
import com.sun.source.tree.ExpressionTree;
import com.sun.source.tree.ImportTree;
import com.sun.source.tree.LambdaExpressionTree;
import com.sun.source.tree.LineMap;
import com.sun.source.tree.LiteralTree;
import com.sun.source.tree.MemberReferenceTree;
import com.sun.source.tree.MethodInvocationTree;
import com.sun.source.tree.MethodTree;
import com.sun.source.tree.NewClassTree;
import com.sun.source.tree.SynchronizedTree;
import com.sun.source.tree.ThrowTree;
import com.sun.source.tree.Tree;
import com.sun.source.tree.TryTree;
import com.sun.source.tree.TypeCastTree;
import com.sun.source.tree.VariableTree;
import com.sun.source.util.JavacTask;
import com.sun.source.util.TreePath;
import com.sun.source.util.TreePathScanner;
import com.sun.source.util.Trees;
import java.io.IOException;
import java.nio.file.Path;
import java.util.HashMap;
import java.util.HashSet;
import java.util.Map;
import java.util.Set;
import javax.lang.model.element.Element;
import javax.lang.model.element.ElementKind;
import javax.lang.model.element.Modifier;
import javax.lang.model.element.TypeElement;
import javax.lang.model.type.DeclaredType;
import javax.lang.model.type.TypeMirror;
import javax.tools.JavaCompiler;
import javax.tools.StandardJavaFileManager;
import javax.tools.ToolProvider;

/** The rules of LANGUAGE.md that can be read off the syntax tree of the class. */
public final class LanguageTest {
    private static final Set<String> EXCEPTIONS = Set.of("IllegalStateException", "IllegalArgumentException",
            "IndexOutOfBoundsException", "ArithmeticException", "UnsupportedOperationException",
            "NoSuchElementException", "RuntimeException");
    private static final Set<String> IMPORTS = Set.of("java.util.ArrayList", "java.util.Arrays", "java.util.Iterator",
            "java.util.List", "java.util.NoSuchElementException");
    private static final Set<String> MADE = Set.of("String", "StringBuilder", "ArrayList");
    private static final Set<String> LIBRARY = Set.of(
            "String.length", "String.charAt", "String.isEmpty", "String.equals", "String.indexOf",
            "String.substring", "String.toCharArray", "StringBuilder.append", "StringBuilder.charAt",
            "StringBuilder.setCharAt", "StringBuilder.setLength", "StringBuilder.deleteCharAt",
            "StringBuilder.reverse", "StringBuilder.length", "StringBuilder.toString", "List.add", "List.get",
            "List.set", "List.remove", "List.size", "List.isEmpty", "List.clear", "List.of", "ArrayList.add",
            "ArrayList.get", "ArrayList.set", "ArrayList.remove", "ArrayList.size", "ArrayList.isEmpty",
            "ArrayList.clear", "System.arraycopy", "Arrays.copyOf", "Arrays.copyOfRange", "Arrays.fill");
    private static final Set<String> OF_NUMBERS = Set.of("Math", "Integer", "Long");
    private static final Set<String> NAMES_OF_OBJECT = Set.of("equals", "hashCode", "toString");

    private static final int MOST_LINES = 60;
    private static final int MOST_PARAMETERS = 7;
    private static final int MOST_CLASSES = 12;
    private static final int MOST_FIELDS = 20;
    private static final int DEEPEST = 8;

    public static void main(String[] args) throws IOException {
        JavaCompiler compiler = ToolProvider.getSystemJavaCompiler();
        try (StandardJavaFileManager files = compiler.getStandardFileManager(null, null, null)) {
            JavacTask task = (JavacTask) compiler.getTask(null, files, null, null, null,
                    files.getJavaFileObjects(Path.of("src/main/java/SparePool.java")));
            Iterable<? extends CompilationUnitTree> units = task.parse();
            task.analyze();
            Rules rules = new Rules(Trees.instance(task));
            for (CompilationUnitTree unit : units) {
                must("no package line", unit.getPackageName() == null);
                for (ImportTree named : unit.getImports()) {
                    must("rule 4: " + named, IMPORTS.contains(named.getQualifiedIdentifier().toString()));
                }
                Check.due("rule 1, classes of the file", unit.getTypeDecls().size(), 1);
                rules.read(unit);
            }
        }
        Check.finish("LanguageTest");
    }

    private static void must(String what, boolean holds) {
        Check.due(what, holds ? 1 : 0, 1);
    }

    /** Goes through the tree; what can't be told at one place (calls, classes) is gathered. */
    private static final class Rules extends TreePathScanner<Void, Void> {
        private final Trees trees;
        private final Map<Element, Set<Element>> calls = new HashMap<>();
        private CompilationUnitTree unit;
        private Element method;
        private int classes;

        Rules(Trees trees) {
            this.trees = trees;
        }

        void read(CompilationUnitTree whole) {
            unit = whole;
            scan(whole, null);
            must("rule 11: " + classes + " classes", classes <= MOST_CLASSES);
            for (Element caller : calls.keySet()) {
                int deep = depth(caller, 1);
                must("rule 11: " + caller + " goes " + deep + " deep", deep <= DEEPEST);
            }
        }

        /** A recursion would go deeper than any bound, so it is cut off behind the bound. */
        private int depth(Element caller, int at) {
            int deepest = at;
            if (at <= DEEPEST) {
                for (Element callee : calls.getOrDefault(caller, Set.of())) {
                    deepest = Math.max(deepest, depth(callee, at + 1));
                }
            }
            return deepest;
        }

        private String at(Tree tree) {
            LineMap lines = unit.getLineMap();
            return " in line " + lines.getLineNumber(trees.getSourcePositions().getStartPosition(unit, tree));
        }

        private Element element() {
            return trees.getElement(getCurrentPath());
        }

        private boolean isOwn(Element element) {
            return trees.getTree(element) != null;
        }

        private boolean isText(ExpressionTree tree) {
            TypeMirror type = trees.getTypeMirror(new TreePath(getCurrentPath(), tree));
            return type != null && type.toString().equals("java.lang.String");
        }

        @Override
        public Void visitClass(ClassTree tree, Void none) {
            classes++;
            Element type = element();
            boolean isOuter = type.getEnclosingElement().getKind() == ElementKind.PACKAGE;
            Set<Modifier> flags = type.getModifiers();
            must("rule 1 or 2: " + type, isOuter ? flags.contains(Modifier.PUBLIC) && flags.contains(Modifier.FINAL)
                    : flags.contains(Modifier.STATIC) && !flags.contains(Modifier.PUBLIC));
            int fields = 0;
            for (Tree member : tree.getMembers()) {
                must("rule 5, a block" + at(member), member.getKind() != Tree.Kind.BLOCK);
                fields += member instanceof VariableTree field
                        && !field.getModifiers().getFlags().contains(Modifier.STATIC) ? 1 : 0;
            }
            must("rule 11: " + type + " has " + fields + " fields", fields <= MOST_FIELDS);
            return super.visitClass(tree, none);
        }

        @Override
        public Void visitMethod(MethodTree tree, Void none) {
            Element outer = method;
            method = element();
            LineMap lines = unit.getLineMap();
            long first = lines.getLineNumber(trees.getSourcePositions().getStartPosition(unit, tree));
            long last = lines.getLineNumber(Math.max(0, trees.getSourcePositions().getEndPosition(unit, tree)));
            must("rule 11: lines of " + method, last - first < MOST_LINES);
            must("rule 11: parameters of " + method, tree.getParameters().size() <= MOST_PARAMETERS);
            must("rule 6: " + method, !NAMES_OF_OBJECT.contains(tree.getName().toString()));
            super.visitMethod(tree, none);
            method = outer;
            return null;
        }

        @Override
        public Void visitVariable(VariableTree tree, Void none) {
            Element variable = element();
            if (variable.getModifiers().contains(Modifier.STATIC)) {
                must("rule 5: " + variable, variable.getModifiers().contains(Modifier.FINAL));
            }
            if (variable.getKind() == ElementKind.FIELD) {
                must("rule 1: " + variable, variable.getModifiers().contains(Modifier.PRIVATE)
                        || variable.getSimpleName().contentEquals("NONE"));
            }
            return super.visitVariable(tree, none);
        }

        @Override
        public Void visitMethodInvocation(MethodInvocationTree tree, Void none) {
            Element called = element();
            if (isOwn(called)) {
                calls.computeIfAbsent(method, m -> new HashSet<>()).add(called);
            } else if (called.getKind() != ElementKind.CONSTRUCTOR) {
                TypeElement owner = (TypeElement) called.getEnclosingElement();
                String name = owner.getSimpleName() + "." + called.getSimpleName();
                must("rule 4: " + name + at(tree), LIBRARY.contains(name)
                        || OF_NUMBERS.contains(owner.getSimpleName().toString()) && !name.endsWith("Exact"));
            }
            return super.visitMethodInvocation(tree, none);
        }

        @Override
        public Void visitNewClass(NewClassTree tree, Void none) {
            Element made = element().getEnclosingElement();
            boolean isThrown = getCurrentPath().getParentPath().getLeaf() instanceof ThrowTree;
            must("rule 4: new " + made + at(tree),
                    isThrown || isOwn(made) || MADE.contains(made.getSimpleName().toString()));
            return super.visitNewClass(tree, none);
        }

        @Override
        public Void visitThrow(ThrowTree tree, Void none) {
            must("rule 6: no throw in a constructor", method.getKind() == ElementKind.METHOD);
            must("rule 6" + at(tree), tree.getExpression() instanceof NewClassTree made
                    && EXCEPTIONS.contains(made.getIdentifier().toString())
                    && (made.getArguments().isEmpty() || made.getArguments().get(0) instanceof LiteralTree));
            return super.visitThrow(tree, none);
        }

        @Override
        public Void visitBinary(BinaryTree tree, Void none) {
            must("rule 10 or 6, a text" + at(tree), !isText(tree.getLeftOperand()) && !isText(tree.getRightOperand()));
            return super.visitBinary(tree, none);
        }

        @Override
        public Void visitCompoundAssignment(CompoundAssignmentTree tree, Void none) {
            must("rule 10, a text" + at(tree), !isText(tree.getVariable()));
            return super.visitCompoundAssignment(tree, none);
        }

        @Override
        public Void visitTypeCast(TypeCastTree tree, Void none) {
            TypeMirror type = trees.getTypeMirror(getCurrentPath());
            must("rule 6, a cast" + at(tree), type.getKind().isPrimitive()
                    || type instanceof DeclaredType declared && isOwn(declared.asElement()));
            return super.visitTypeCast(tree, none);
        }

        @Override
        public Void visitTry(TryTree tree, Void none) {
            must("rule 6, a try" + at(tree), tree.getFinallyBlock() == null && tree.getResources().isEmpty());
            for (CatchTree caught : tree.getCatches()) {
                must("rule 6, a catch" + at(caught), EXCEPTIONS.contains(caught.getParameter().getType().toString()));
            }
            return super.visitTry(tree, none);
        }

        @Override
        public Void visitLambdaExpression(LambdaExpressionTree tree, Void none) {
            must("rule 2, a lambda" + at(tree), false);
            return super.visitLambdaExpression(tree, none);
        }

        @Override
        public Void visitMemberReference(MemberReferenceTree tree, Void none) {
            must("rule 2, a method reference" + at(tree), false);
            return super.visitMemberReference(tree, none);
        }

        @Override
        public Void visitSynchronized(SynchronizedTree tree, Void none) {
            must("rule 6, synchronized" + at(tree), false);
            return super.visitSynchronized(tree, none);
        }

        @Override
        public Void visitAssert(AssertTree tree, Void none) {
            must("rule 6, assert" + at(tree), false);
            return super.visitAssert(tree, none);
        }
    }
}
