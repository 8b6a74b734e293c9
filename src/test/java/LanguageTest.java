import com.sun.source.tree.*;
import com.sun.source.util.JavacTask;
import com.sun.source.util.SourcePositions;
import com.sun.source.util.TreePathScanner;
import com.sun.source.util.Trees;
import java.io.IOException;
import java.util.HashMap;
import java.util.HashSet;
import java.util.LinkedHashSet;
import java.util.List;
import java.util.Map;
import java.util.Set;
import javax.lang.model.element.Element;
import javax.lang.model.element.ElementKind;
import javax.lang.model.element.ExecutableElement;
import javax.lang.model.element.Modifier;
import javax.lang.model.element.TypeElement;
import javax.lang.model.type.TypeKind;
import javax.lang.model.type.TypeMirror;
import javax.tools.JavaCompiler;
import javax.tools.StandardJavaFileManager;
import javax.tools.ToolProvider;

/**
 * The program keeps to ../shared/LANGUAGE.md, as far as its text tells; where the program needs less than a rule
 * allows (no recursion, no try, no cast among own classes), the test is the stricter one. FaceTest has rule 1.
 */
public final class LanguageTest {
    private static final String FILE = "src/main/java/MailMerge.java";
    private static final int DEEPEST_CALLS = 8;
    private static final Set<String> LIBRARY = Set.of("String.length()", "String.charAt(int)", "String.isEmpty()",
            "String.equals(Object)", "String.indexOf(int)", "String.substring(int)", "String.substring(int,int)",
            "String.toCharArray()", "StringBuilder.append(char)", "StringBuilder.append(String)",
            "StringBuilder.append(int)", "StringBuilder.charAt(int)", "StringBuilder.setCharAt(int,char)",
            "StringBuilder.setLength(int)", "StringBuilder.deleteCharAt(int)", "StringBuilder.reverse()",
            "StringBuilder.length()", "StringBuilder.toString()", "Math.max(int,int)", "Math.min(int,int)",
            "Math.abs(int)", "Integer.bitCount(int)", "Integer.compare(int,int)");
    private static final Set<String> EXCEPTIONS = Set.of("IllegalStateException", "IllegalArgumentException",
            "IndexOutOfBoundsException", "ArithmeticException", "UnsupportedOperationException",
            "NoSuchElementException", "RuntimeException");
    private static final Set<Tree.Kind> FORBIDDEN = Set.of(Tree.Kind.LAMBDA_EXPRESSION, Tree.Kind.MEMBER_REFERENCE,
            Tree.Kind.TRY, Tree.Kind.SYNCHRONIZED, Tree.Kind.ASSERT, Tree.Kind.INSTANCE_OF, Tree.Kind.ANNOTATION_TYPE,
            Tree.Kind.SWITCH_EXPRESSION, Tree.Kind.YIELD);

    private static final Checks CHECKS = new Checks("LanguageTest");

    private final Map<Element, Set<Element>> calls = new HashMap<>();
    private final Set<Element> methods = new LinkedHashSet<>();
    private CompilationUnitTree unit;
    private SourcePositions positions;
    private Trees trees;

    public static void main(String[] args) throws IOException {
        new LanguageTest().look();
        CHECKS.end();
    }

    private void look() throws IOException {
        JavaCompiler compiler = ToolProvider.getSystemJavaCompiler();
        try (StandardJavaFileManager files = compiler.getStandardFileManager(null, null, null)) {
            JavacTask task = (JavacTask) compiler.getTask(null, files, null, List.of("-proc:none"), null,
                    files.getJavaFileObjects(FILE));
            unit = task.parse().iterator().next();
            task.analyze();
            trees = Trees.instance(task);
            positions = trees.getSourcePositions();
            Scanner scanner = new Scanner();
            scanner.scan(unit, null);
            CHECKS.same("rule 11: classes, at most 12", true, scanner.classes <= 12);
        }
        CHECKS.same("no package line", null, unit.getPackageName());
        CHECKS.same("methods were found", true, methods.size() > 100);
        for (Element each : methods) {
            int depth = depthOf(each, new HashSet<>());
            CHECKS.same("rules 8 and 11: calls from " + each + " go " + depth + " deep", true, depth <= DEEPEST_CALLS);
        }
    }

    /** How deep calls go from a method on, the calls of the library included; far too deep where they go round. */
    private int depthOf(Element method, Set<Element> open) {
        if (!open.add(method)) {
            return 1000;
        }
        int deepest = 0;
        for (Element each : calls.getOrDefault(method, Set.of())) {
            deepest = Math.max(deepest, depthOf(each, open));
        }
        open.remove(method);
        return deepest + 1;
    }

    private final class Scanner extends TreePathScanner<Void, Void> {
        int classes = 0;
        private Element current = null;

        @Override
        public Void scan(Tree tree, Void nothing) {
            if (tree != null) {
                boolean isAllowed = !FORBIDDEN.contains(tree.getKind());
                if (!isAllowed) {
                    CHECKS.same("line " + lineOf(tree) + ": no " + tree.getKind(), true, false);
                }
            }
            return super.scan(tree, nothing);
        }

        @Override
        public Void visitClass(ClassTree tree, Void nothing) {
            classes++;
            int fields = 0;
            for (Tree each : tree.getMembers()) {
                boolean isStatic = each instanceof VariableTree field
                        && field.getModifiers().getFlags().contains(Modifier.STATIC);
                fields += each instanceof VariableTree && !isStatic ? 1 : 0;
                CHECKS.same("rule 5: no initialiser block in " + tree.getSimpleName(), false, each instanceof BlockTree);
            }
            CHECKS.same("rule 11: fields of " + tree.getSimpleName() + ", at most 20", true, fields <= 20);
            boolean isInner = getCurrentPath().getParentPath().getLeaf() instanceof ClassTree;
            CHECKS.same("rule 2: " + tree.getSimpleName() + " stands in a class or is the file's", true,
                    isInner || tree.getSimpleName().contentEquals("MailMerge"));
            return super.visitClass(tree, nothing);
        }

        @Override
        public Void visitMethod(MethodTree tree, Void nothing) {
            Element before = current;
            current = trees.getElement(getCurrentPath());
            methods.add(current);
            long lines = unit.getLineMap().getLineNumber(positions.getEndPosition(unit, tree)) - lineOf(tree) + 1;
            CHECKS.same("rule 11: " + current + " has at most 60 lines", true, lines <= 60);
            CHECKS.same("rule 11: " + current + " has at most 7 parameters", true, tree.getParameters().size() <= 7);
            Set<String> ofObjects = Set.of("equals", "hashCode", "toString", "finalize", "clone");
            CHECKS.same("rule 6: none of objects' own: " + current, false, ofObjects.contains("" + tree.getName()));
            super.visitMethod(tree, nothing);
            current = before;
            return null;
        }

        @Override
        public Void visitVariable(VariableTree tree, Void nothing) {
            Element variable = trees.getElement(getCurrentPath());
            CHECKS.same("rule 3: the type of " + variable + ", line " + lineOf(tree), true, isAllowed(variable.asType()));
            if (variable.getModifiers().contains(Modifier.STATIC)) {
                CHECKS.same("rule 5: " + variable + " is final", true, variable.getModifiers().contains(Modifier.FINAL));
                boolean isConstant = Set.of("int", "long", "boolean", "char", "java.lang.String")
                        .contains(variable.asType().toString());
                CHECKS.same("rule 5: " + variable + " is a constant", true, isConstant);
            }
            return super.visitVariable(tree, nothing);
        }

        private boolean isAllowed(TypeMirror type) {
            if (type.getKind() == TypeKind.ARRAY) {
                TypeMirror part = ((javax.lang.model.type.ArrayType) type).getComponentType();
                return part.getKind().isPrimitive() || isOwn(part);
            }
            return type.getKind().isPrimitive() || isOwn(type)
                    || Set.of("java.lang.String", "java.lang.StringBuilder").contains(type.toString());
        }

        private boolean isOwn(TypeMirror type) {
            return type.toString().startsWith("MailMerge");
        }

        @Override
        public Void visitMethodInvocation(MethodInvocationTree tree, Void nothing) {
            ExecutableElement called = (ExecutableElement) trees.getElement(getCurrentPath());
            TypeElement owner = (TypeElement) called.getEnclosingElement();
            boolean isObject = owner.getQualifiedName().contentEquals("java.lang.Object")
                    && called.getKind() == ElementKind.CONSTRUCTOR;
            if (!isObject) {
                note(called);
                // StringBuilder has some of its methods from a class that stands behind it.
                String name = (owner.getSimpleName() + "." + called).replace("java.lang.", "").replace("Abstract", "");
                CHECKS.same("rule 4: " + name + ", line " + lineOf(tree), true,
                        isOwn(owner.asType()) || LIBRARY.contains(name));
                boolean isSign = !name.equals("String.indexOf(int)")
                        || trees.getTypeMirror(new com.sun.source.util.TreePath(getCurrentPath(),
                                tree.getArguments().get(0))).getKind() == TypeKind.CHAR;
                CHECKS.same("rule 4: indexOf of a char, line " + lineOf(tree), true, isSign);
            }
            return super.visitMethodInvocation(tree, nothing);
        }

        @Override
        public Void visitNewClass(NewClassTree tree, Void nothing) {
            Element made = trees.getElement(getCurrentPath());
            TypeElement owner = (TypeElement) made.getEnclosingElement();
            boolean isThrown = getCurrentPath().getParentPath().getLeaf() instanceof ThrowTree;
            boolean isAllowed = isOwn(owner.asType()) || owner.getSimpleName().contentEquals("StringBuilder")
                    || isThrown && EXCEPTIONS.contains("" + owner.getSimpleName());
            CHECKS.same("rules 4 and 6: new " + owner + ", line " + lineOf(tree), true, isAllowed);
            CHECKS.same("no anonymous class, line " + lineOf(tree), null, tree.getClassBody());
            if (isOwn(owner.asType())) {
                note(made);
            }
            return super.visitNewClass(tree, nothing);
        }

        private void note(Element called) {
            if (current != null) {
                calls.computeIfAbsent(current, each -> new LinkedHashSet<>()).add(called);
            }
        }

        @Override
        public Void visitThrow(ThrowTree tree, Void nothing) {
            boolean isWritten = tree.getExpression() instanceof NewClassTree made
                    && made.getArguments().stream().allMatch(each -> each instanceof LiteralTree);
            CHECKS.same("rule 6: a new exception with a written text, line " + lineOf(tree), true, isWritten);
            CHECKS.same("rule 6: no throw in a constructor, line " + lineOf(tree), false,
                    current.getKind() == ElementKind.CONSTRUCTOR);
            return super.visitThrow(tree, nothing);
        }

        @Override
        public Void visitBinary(BinaryTree tree, Void nothing) {
            boolean isText = ("" + trees.getTypeMirror(getCurrentPath())).equals("java.lang.String");
            CHECKS.same("rule 10: no text joined by +, line " + lineOf(tree), false, isText);
            boolean isDivision = tree.getKind() == Tree.Kind.DIVIDE || tree.getKind() == Tree.Kind.REMAINDER;
            if (isDivision && !(tree.getRightOperand() instanceof LiteralTree)) {
                // Both divisors of the program are cast from an int that was compared with 0.
                CHECKS.same("rule 7: the divisor, line " + lineOf(tree), true,
                        tree.getRightOperand() instanceof TypeCastTree);
            }
            return super.visitBinary(tree, nothing);
        }

        @Override
        public Void visitCompoundAssignment(CompoundAssignmentTree tree, Void nothing) {
            boolean isText = ("" + trees.getTypeMirror(getCurrentPath())).equals("java.lang.String");
            CHECKS.same("rule 10: no text joined by +=, line " + lineOf(tree), false, isText);
            return super.visitCompoundAssignment(tree, nothing);
        }

        @Override
        public Void visitTypeCast(TypeCastTree tree, Void nothing) {
            boolean isNumber = trees.getTypeMirror(getCurrentPath()).getKind().isPrimitive();
            CHECKS.same("rule 6: casts of numbers alone, line " + lineOf(tree), true, isNumber);
            return super.visitTypeCast(tree, nothing);
        }

        @Override
        public Void visitForLoop(ForLoopTree tree, Void nothing) {
            CHECKS.same("rule 9: a loop has a condition, line " + lineOf(tree), true, tree.getCondition() != null);
            return super.visitForLoop(tree, nothing);
        }

        @Override
        public Void visitWhileLoop(WhileLoopTree tree, Void nothing) {
            CHECKS.same("rule 9: no while, whose end would not be seen, line " + lineOf(tree), true, false);
            return super.visitWhileLoop(tree, nothing);
        }

        @Override
        public Void visitLiteral(LiteralTree tree, Void nothing) {
            if (tree.getValue() instanceof String text) {
                CHECKS.same("rule 4: signs from 1 to 127, line " + lineOf(tree), true,
                        text.chars().allMatch(sign -> sign >= 1 && sign <= 127));
            }
            return super.visitLiteral(tree, nothing);
        }

        private long lineOf(Tree tree) {
            return unit.getLineMap().getLineNumber(Math.max(0, positions.getStartPosition(unit, tree)));
        }
    }
}
