import com.sun.source.tree.AnnotationTree;
import com.sun.source.tree.AssertTree;
import com.sun.source.tree.BinaryTree;
import com.sun.source.tree.ClassTree;
import com.sun.source.tree.CompilationUnitTree;
import com.sun.source.tree.CompoundAssignmentTree;
import com.sun.source.tree.DoWhileLoopTree;
import com.sun.source.tree.ExpressionTree;
import com.sun.source.tree.ForLoopTree;
import com.sun.source.tree.IdentifierTree;
import com.sun.source.tree.ImportTree;
import com.sun.source.tree.LambdaExpressionTree;
import com.sun.source.tree.LiteralTree;
import com.sun.source.tree.MemberReferenceTree;
import com.sun.source.tree.MethodInvocationTree;
import com.sun.source.tree.MethodTree;
import com.sun.source.tree.NewClassTree;
import com.sun.source.tree.SynchronizedTree;
import com.sun.source.tree.ThrowTree;
import com.sun.source.tree.Tree;
import com.sun.source.tree.TryTree;
import com.sun.source.tree.VariableTree;
import com.sun.source.tree.WhileLoopTree;
import com.sun.source.util.JavacTask;
import com.sun.source.util.TreePathScanner;
import com.sun.source.util.Trees;
import java.nio.file.Path;
import java.util.ArrayList;
import java.util.LinkedHashMap;
import java.util.LinkedHashSet;
import java.util.List;
import java.util.Map;
import java.util.Set;
import javax.lang.model.element.Element;
import javax.lang.model.element.ElementKind;
import javax.lang.model.element.ExecutableElement;
import javax.lang.model.element.Modifier;
import javax.lang.model.element.TypeElement;
import javax.lang.model.element.VariableElement;
import javax.lang.model.type.ArrayType;
import javax.lang.model.type.DeclaredType;
import javax.lang.model.type.TypeKind;
import javax.lang.model.type.TypeMirror;
import javax.tools.JavaCompiler;
import javax.tools.StandardJavaFileManager;
import javax.tools.ToolProvider;

/**
 * What of ../shared/LANGUAGE.md can be seen in the source, rule by rule, as the compiler reads it. It is no proof: that
 * an index is looked at before it is used (rule 7), and that loops end (rule 9), is seen here in part alone.
 */
public final class LanguageTest {
    private static final Path SOURCE = Path.of("src/main/java/Diophantdesk.java");
    private static final String OUTER = "Diophantdesk";
    private static final int MOST_CLASSES = 12;
    private static final int MOST_FIELDS = 20;
    private static final int MOST_LINES = 60;
    private static final int MOST_PARAMETERS = 7;
    private static final int MOST_CALLS_DEEP = 8;

    /** Rule 4; of Math, Integer and Long all but what ends in Exact, if it takes whole numbers alone. */
    private static final Map<String, Set<String>> LIBRARY = Map.of(
            "java.lang.String", Set.of("length", "charAt", "isEmpty", "equals", "indexOf", "substring", "toCharArray", "<init>"),
            "java.lang.StringBuilder", Set.of("<init>", "append", "charAt", "setCharAt", "setLength", "deleteCharAt", "reverse",
                    "length", "toString"),
            "java.util.ArrayList", Set.of("<init>", "add", "get", "set", "remove", "size", "isEmpty", "clear"),
            "java.util.List", Set.of("add", "get", "set", "remove", "size", "isEmpty", "clear", "of"),
            "java.util.Iterator", Set.of("hasNext", "next"),
            "java.lang.System", Set.of("arraycopy"),
            "java.util.Arrays", Set.of("copyOf", "copyOfRange", "fill"),
            "java.lang.Object", Set.of("<init>", "clone"));
    private static final Set<String> OF_WHOLE_NUMBERS = Set.of("java.lang.Math", "java.lang.Integer", "java.lang.Long");
    /** Rule 6. */
    private static final Set<String> EXCEPTIONS = Set.of("java.lang.IllegalStateException", "java.lang.IllegalArgumentException",
            "java.lang.IndexOutOfBoundsException", "java.lang.ArithmeticException", "java.lang.UnsupportedOperationException",
            "java.util.NoSuchElementException", "java.lang.RuntimeException");
    /** Rules 3 and 4. */
    private static final Set<String> TYPES = Set.of("java.lang.String", "java.lang.StringBuilder", "java.lang.Integer",
            "java.util.ArrayList", "java.util.List", "java.util.Iterator", "java.lang.Iterable", "java.lang.Comparable");
    private static final Set<String> IMPORTS = Set.of("java.util.Arrays", "java.util.ArrayList", "java.util.List",
            "java.util.Iterator", "java.util.NoSuchElementException");

    private static int wrong;

    private LanguageTest() {
    }

    /** Goes through the source; which method calls which is kept for rules 8 and 11. */
    private static final class Reader extends TreePathScanner<Void, Void> {
        private final CompilationUnitTree unit;
        private final Trees trees;
        private final Map<Element, Set<Element>> calls = new LinkedHashMap<>();
        private int classes;
        private Element method;

        Reader(CompilationUnitTree unit, Trees trees) {
            this.unit = unit;
            this.trees = trees;
        }

        private void must(boolean isSo, int rule, Tree at, String what) {
            if (!isSo) {
                wrong++;
                System.out.println("line " + line(trees.getSourcePositions().getStartPosition(unit, at)) + ": " + what
                        + " (rule " + rule + ")");
            }
        }

        private long line(long position) {
            return unit.getLineMap().getLineNumber(position);
        }

        private Element element() {
            return trees.getElement(getCurrentPath());
        }

        private boolean isText(Tree of) {
            TypeMirror type = trees.getTypeMirror(trees.getPath(unit, of));
            return type != null && type.toString().equals("java.lang.String");
        }

        // ---- rule 1, 2, 5, 11: classes and what they hold

        @Override
        public Void visitClass(ClassTree tree, Void none) {
            classes++;
            must(classes <= MOST_CLASSES, 11, tree, "more than " + MOST_CLASSES + " classes");
            Element of = element();
            boolean isOuter = of.getSimpleName().contentEquals(OUTER);
            boolean isNameless = of.getSimpleName().length() == 0;
            Set<Modifier> modifiers = of.getModifiers();
            must(isOuter == modifiers.contains(Modifier.PUBLIC) && !modifiers.contains(Modifier.PROTECTED), 1, tree, "a class that is seen");
            must(isOuter || isNameless || modifiers.contains(Modifier.STATIC), 1, tree, "a class inside that is not static");
            int fields = 0;
            for (Tree member : tree.getMembers()) {
                if (member instanceof VariableTree) {
                    fields += ((VariableTree) member).getModifiers().getFlags().contains(Modifier.STATIC) ? 0 : 1;
                }
                must(member.getKind() != Tree.Kind.BLOCK, 5, member, "an initialiser block");
            }
            must(fields <= MOST_FIELDS, 11, tree, fields + " fields");
            return super.visitClass(tree, none);
        }

        @Override
        public Void visitVariable(VariableTree tree, Void none) {
            Element of = element();
            must(of.getKind() == ElementKind.EXCEPTION_PARAMETER || isLet(of.asType()), 3, tree, "a variable of the type " + of.asType());
            if (of.getKind() == ElementKind.FIELD) {
                Set<Modifier> modifiers = of.getModifiers();
                boolean isOfOuter = of.getEnclosingElement().getSimpleName().contentEquals(OUTER);
                must(!isOfOuter || modifiers.contains(Modifier.PRIVATE), 1, tree, "a field that is seen");
                must(!modifiers.contains(Modifier.STATIC) || modifiers.contains(Modifier.FINAL), 5, tree, "a static field that is not final");
                must(!modifiers.contains(Modifier.STATIC) || ((VariableElement) of).getConstantValue() != null
                        || of.asType().getKind() == TypeKind.ARRAY, 5, tree, "a static field that is no constant");
            }
            return super.visitVariable(tree, none);
        }

        /** Whole numbers and own classes, arrays of these, of two dimensions for numbers alone. */
        private boolean isLet(TypeMirror type) {
            if (type.getKind() == TypeKind.ARRAY) {
                TypeMirror of = ((ArrayType) type).getComponentType();
                boolean isOfTwo = of.getKind() == TypeKind.ARRAY;
                return isOfTwo ? ((ArrayType) of).getComponentType().getKind().isPrimitive() : isLet(of);
            }
            if (type.getKind() != TypeKind.DECLARED) {
                return type.getKind().isPrimitive() || type.getKind() == TypeKind.TYPEVAR;
            }
            Element of = ((DeclaredType) type).asElement();
            return isOwn(of) || TYPES.contains(((TypeElement) of).getQualifiedName().toString());
        }

        @Override
        public Void visitMethod(MethodTree tree, Void none) {
            Element outer = method;
            method = element();
            calls.putIfAbsent(method, new LinkedHashSet<>());
            must(tree.getParameters().size() <= MOST_PARAMETERS, 11, tree, "too many parameters");
            long lines = line(trees.getSourcePositions().getEndPosition(unit, tree))
                    - line(trees.getSourcePositions().getStartPosition(unit, tree)) + 1;
            must(lines <= MOST_LINES, 11, tree, "a method of " + lines + " lines");
            String name = tree.getName().toString();
            must(!name.equals("equals") && !name.equals("hashCode") && !name.equals("toString"), 6, tree, "an own " + name);
            super.visitMethod(tree, none);
            method = outer;
            return null;
        }

        // ---- rule 4, 6: what is called, made and thrown

        @Override
        public Void visitMethodInvocation(MethodInvocationTree tree, Void none) {
            called((ExecutableElement) element(), tree);
            return super.visitMethodInvocation(tree, none);
        }

        @Override
        public Void visitNewClass(NewClassTree tree, Void none) {
            ExecutableElement made = (ExecutableElement) element();
            String type = ((TypeElement) made.getEnclosingElement()).getQualifiedName().toString();
            if (EXCEPTIONS.contains(type)) {
                must(getCurrentPath().getParentPath().getLeaf() instanceof ThrowTree, 6, tree, "an exception that is not thrown");
                must(tree.getArguments().isEmpty() || tree.getArguments().get(0) instanceof LiteralTree, 6, tree, "no written text");
            } else {
                called(made, tree);
            }
            return super.visitNewClass(tree, none);
        }

        private void called(ExecutableElement callee, Tree at) {
            TypeElement owner = (TypeElement) callee.getEnclosingElement();
            String name = callee.getSimpleName().toString();
            // What StringBuilder has of its hidden parent is its own here.
            String type = owner.getQualifiedName().toString().replace("AbstractStringBuilder", "StringBuilder");
            if (OF_WHOLE_NUMBERS.contains(type)) {
                boolean isOfWhole = callee.getModifiers().contains(Modifier.STATIC) && !name.endsWith("Exact");
                for (VariableElement parameter : callee.getParameters()) {
                    isOfWhole &= parameter.asType().getKind() == TypeKind.INT || parameter.asType().getKind() == TypeKind.LONG;
                }
                must(isOfWhole, 4, at, type + "." + name);
            } else if (!isOwn(owner)) {
                must(LIBRARY.getOrDefault(type, Set.of()).contains(name), 4, at, type + "." + name);
            }
            if (method != null) {
                calls.get(method).add(callee);
            }
        }

        private boolean isOwn(Element of) {
            Element at = of;
            while (at.getKind() != ElementKind.PACKAGE && !at.getSimpleName().contentEquals(OUTER)) {
                at = at.getEnclosingElement();
            }
            return at.getKind() != ElementKind.PACKAGE;
        }

        @Override
        public Void visitThrow(ThrowTree tree, Void none) {
            boolean isNew = tree.getExpression() instanceof NewClassTree;
            must(isNew && EXCEPTIONS.contains(trees.getTypeMirror(trees.getPath(unit, tree.getExpression())).toString()), 6, tree,
                    "throws something else than a new exception of the list");
            must(method.getKind() != ElementKind.CONSTRUCTOR, 6, tree, "a constructor that throws");
            return super.visitThrow(tree, none);
        }

        @Override
        public Void visitTry(TryTree tree, Void none) {
            must(tree.getFinallyBlock() == null && tree.getResources().isEmpty(), 6, tree, "finally, or try with resources");
            tree.getCatches().forEach(caught -> must(
                    EXCEPTIONS.contains(trees.getTypeMirror(trees.getPath(unit, caught.getParameter().getType())).toString()),
                    6, caught, "catches what is not in the list"));
            return super.visitTry(tree, none);
        }

        @Override
        public Void visitImport(ImportTree tree, Void none) {
            must(IMPORTS.contains(tree.getQualifiedIdentifier().toString()), 4, tree, "an import of " + tree.getQualifiedIdentifier());
            return super.visitImport(tree, none);
        }

        // ---- rule 2, 3, 6, 9, 10: what is not written at all

        @Override
        public Void visitLambdaExpression(LambdaExpressionTree tree, Void none) {
            must(false, 2, tree, "a lambda");
            return super.visitLambdaExpression(tree, none);
        }

        @Override
        public Void visitMemberReference(MemberReferenceTree tree, Void none) {
            must(false, 2, tree, "a method reference");
            return super.visitMemberReference(tree, none);
        }

        @Override
        public Void visitSynchronized(SynchronizedTree tree, Void none) {
            must(false, 6, tree, "synchronized");
            return super.visitSynchronized(tree, none);
        }

        @Override
        public Void visitAssert(AssertTree tree, Void none) {
            must(false, 6, tree, "assert");
            return super.visitAssert(tree, none);
        }

        @Override
        public Void visitAnnotation(AnnotationTree tree, Void none) {
            must(tree.getAnnotationType().toString().equals("Override"), 4, tree, "an annotation");
            return super.visitAnnotation(tree, none);
        }

        @Override
        public Void visitLiteral(LiteralTree tree, Void none) {
            String text = String.valueOf(tree.getValue());
            must(text.chars().allMatch(sign -> sign >= 1 && sign <= 127), 4, tree, "a sign that is not 1 to 127");
            return super.visitLiteral(tree, none);
        }

        @Override
        public Void visitBinary(BinaryTree tree, Void none) {
            boolean isOfTexts = isText(tree.getLeftOperand()) || isText(tree.getRightOperand());
            must(tree.getKind() != Tree.Kind.PLUS || !isOfTexts, 10, tree, "a text joined by +");
            boolean isSame = tree.getKind() == Tree.Kind.EQUAL_TO || tree.getKind() == Tree.Kind.NOT_EQUAL_TO;
            boolean isNull = tree.getLeftOperand().getKind() == Tree.Kind.NULL_LITERAL
                    || tree.getRightOperand().getKind() == Tree.Kind.NULL_LITERAL;
            must(!isSame || !isOfTexts || isNull, 6, tree, "texts compared by ==");
            return super.visitBinary(tree, none);
        }

        @Override
        public Void visitCompoundAssignment(CompoundAssignmentTree tree, Void none) {
            must(!isText(tree.getVariable()), 10, tree, "a text joined by +=");
            return super.visitCompoundAssignment(tree, none);
        }

        @Override
        public Void visitForLoop(ForLoopTree tree, Void none) {
            must(tree.getCondition() != null && !isAlways(tree.getCondition()), 9, tree, "a loop without an end");
            return super.visitForLoop(tree, none);
        }

        @Override
        public Void visitWhileLoop(WhileLoopTree tree, Void none) {
            must(!isAlways(tree.getCondition()), 9, tree, "a loop without an end");
            return super.visitWhileLoop(tree, none);
        }

        @Override
        public Void visitDoWhileLoop(DoWhileLoopTree tree, Void none) {
            must(!isAlways(tree.getCondition()), 9, tree, "a loop without an end");
            return super.visitDoWhileLoop(tree, none);
        }

        private static boolean isAlways(ExpressionTree condition) {
            return condition.toString().matches("\\(*true\\)*");
        }

        @Override
        public Void visitIdentifier(IdentifierTree tree, Void none) {
            Element of = element();
            if (of instanceof TypeElement && !isOwn(of)) {
                String name = ((TypeElement) of).getQualifiedName().toString();
                must(TYPES.contains(name) || EXCEPTIONS.contains(name) || LIBRARY.containsKey(name) || OF_WHOLE_NUMBERS.contains(name)
                        || name.equals("java.lang.Override"), 4, tree, "the type " + name);
            }
            return super.visitIdentifier(tree, none);
        }

        // ---- rule 8, 11: how deep the calls go

        void checkCalls() {
            List<Element> deepest = new ArrayList<>();
            for (Element start : calls.keySet()) {
                seek(start, new ArrayList<>(), deepest);
            }
            if (deepest.size() > MOST_CALLS_DEEP) {
                wrong++;
                System.out.println("calls go " + deepest.size() + " deep: " + deepest + " (rule 11)");
            }
        }

        private void seek(Element at, List<Element> way, List<Element> deepest) {
            if (way.contains(at)) {
                Set<Modifier> modifiers = at.getModifiers();
                if (!modifiers.contains(Modifier.PRIVATE) || !modifiers.contains(Modifier.STATIC)) {
                    wrong++;
                    System.out.println(at + " calls itself, and is not private and static (rule 8)");
                }
                return;
            }
            way.add(at);
            if (way.size() > deepest.size()) {
                deepest.clear();
                deepest.addAll(way);
            }
            for (Element callee : calls.getOrDefault(at, Set.of())) {
                seek(callee, way, deepest);
            }
            way.remove(way.size() - 1);
        }
    }

    public static void main(String[] args) throws Exception {
        JavaCompiler compiler = ToolProvider.getSystemJavaCompiler();
        try (StandardJavaFileManager files = compiler.getStandardFileManager(null, null, null)) {
            JavacTask task = (JavacTask) compiler.getTask(null, files, null, List.of("--release", "17", "-proc:none"), null,
                    files.getJavaFileObjects(args.length > 0 ? Path.of(args[0]) : SOURCE));
            CompilationUnitTree unit = task.parse().iterator().next();
            task.analyze();
            Reader reader = new Reader(unit, Trees.instance(task));
            reader.must(unit.getPackageName() == null && unit.getTypeDecls().size() == 1, 1, unit, "a package line, or more than one class");
            reader.scan(unit, null);
            reader.checkCalls();
        }
        System.out.println("LANGUAGE.md: " + wrong + " wrong");
        if (wrong > 0) {
            System.exit(1);
        }
    }
}
