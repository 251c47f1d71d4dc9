import com.sun.source.tree.AssertTree;
import com.sun.source.tree.BinaryTree;
import com.sun.source.tree.BlockTree;
import com.sun.source.tree.ClassTree;
import com.sun.source.tree.CompilationUnitTree;
import com.sun.source.tree.CompoundAssignmentTree;
import com.sun.source.tree.DoWhileLoopTree;
import com.sun.source.tree.EnhancedForLoopTree;
import com.sun.source.tree.ExpressionTree;
import com.sun.source.tree.ForLoopTree;
import com.sun.source.tree.InstanceOfTree;
import com.sun.source.tree.LambdaExpressionTree;
import com.sun.source.tree.LiteralTree;
import com.sun.source.tree.MemberReferenceTree;
import com.sun.source.tree.MemberSelectTree;
import com.sun.source.tree.MethodInvocationTree;
import com.sun.source.tree.MethodTree;
import com.sun.source.tree.NewArrayTree;
import com.sun.source.tree.NewClassTree;
import com.sun.source.tree.SynchronizedTree;
import com.sun.source.tree.ThrowTree;
import com.sun.source.tree.Tree;
import com.sun.source.tree.TryTree;
import com.sun.source.tree.TypeCastTree;
import com.sun.source.tree.VariableTree;
import com.sun.source.tree.WhileLoopTree;
import com.sun.source.util.JavacTask;
import com.sun.source.util.TreePath;
import com.sun.source.util.TreePathScanner;
import com.sun.source.util.Trees;
import java.nio.file.Path;
import java.util.ArrayList;
import java.util.HashMap;
import java.util.HashSet;
import java.util.List;
import java.util.Map;
import java.util.Set;
import java.util.TreeMap;
import java.util.TreeSet;
import javax.lang.model.element.Element;
import javax.lang.model.element.ElementKind;
import javax.lang.model.element.ExecutableElement;
import javax.lang.model.element.Modifier;
import javax.lang.model.element.TypeElement;
import javax.lang.model.type.ArrayType;
import javax.lang.model.type.DeclaredType;
import javax.lang.model.type.TypeKind;
import javax.lang.model.type.TypeMirror;
import javax.tools.JavaCompiler;
import javax.tools.StandardJavaFileManager;
import javax.tools.ToolProvider;

/**
 * The rules of LANGUAGE.md that a compiler's tree of the class can tell. Where a rule leaves more than the class
 * needs (try, casts of objects, recursion, objects made in loops, constant arrays), this asks for the stricter thing.
 */
public final class LanguageTest {
    private static final int MOST_LINES = 60;
    private static final int MOST_PARAMETERS = 7;
    private static final int MOST_CLASSES = 12;
    private static final int MOST_FIELDS = 20;
    private static final int MOST_DEPTH = 8;
    /** What may be called or made of the library; "Exact" functions are not among them. */
    private static final Set<String> LIBRARY = Set.of(
        "String.length", "String.charAt", "String.isEmpty", "String.equals", "String.indexOf(int)", "String.substring",
        "String.toCharArray", "Integer.compare", "Integer.bitCount", "Long.bitCount", "Math.max", "Math.min", "Math.abs",
        "Math.floorDiv", "Math.floorMod", "System.arraycopy", "Arrays.copyOf", "Arrays.copyOfRange", "Arrays.fill",
        "List.add", "List.get", "List.set", "List.remove(int)", "List.size", "List.isEmpty", "List.clear",
        "new ArrayList");
    private static final Set<String> EXCEPTIONS = Set.of("IllegalStateException", "IllegalArgumentException",
        "IndexOutOfBoundsException", "ArithmeticException", "UnsupportedOperationException", "NoSuchElementException",
        "RuntimeException");
    private static final Set<String> IMPORTS = Set.of("java.util.ArrayList", "java.util.Arrays", "java.util.List",
        "java.util.NoSuchElementException");

    private final CompilationUnitTree unit;
    private final Trees trees;
    private final List<String> faults = new ArrayList<>();
    private final Map<Element, Set<Element>> calls = new HashMap<>();
    private final Map<Element, Integer> depths = new HashMap<>();
    private final Set<Element> open = new HashSet<>();
    private final Map<String, Integer> fields = new TreeMap<>();
    private final Set<String> publicNames = new TreeSet<>();
    private final Set<String> privateNames = new TreeSet<>();
    private int classes;

    private LanguageTest(CompilationUnitTree unit, Trees trees) {
        this.unit = unit;
        this.trees = trees;
    }

    public static void main(String[] arguments) throws Exception {
        String source = arguments.length > 0 ? arguments[0] : "src/main/java/Peepholery.java";
        JavaCompiler compiler = ToolProvider.getSystemJavaCompiler();
        try (StandardJavaFileManager files = compiler.getStandardFileManager(null, null, null)) {
            JavacTask task = (JavacTask) compiler.getTask(null, files, null, List.of("-proc:none"), null,
                    files.getJavaFileObjects(Path.of(source)));
            CompilationUnitTree unit = task.parse().iterator().next();
            task.analyze();
            LanguageTest test = new LanguageTest(unit, Trees.instance(task));
            test.look();
            for (String fault : test.faults) {
                System.out.println(fault);
            }
            System.out.println("LanguageTest: " + test.classes + " classes, " + test.calls.size() + " methods, "
                    + test.faults.size() + " wrong");
            System.exit(test.faults.isEmpty() && test.classes > 0 ? 0 : 1);
        }
    }

    private void look() {
        if (unit.getPackageName() != null || unit.getTypeDecls().size() != 1) {
            faults.add("head: one file with one public class and no package line");
        }
        unit.getImports().forEach(i -> {
            if (!IMPORTS.contains(i.getQualifiedIdentifier().toString())) {
                faults.add("rule 4: " + i);
            }
        });
        new Looker().scan(unit, null);
        if (classes > MOST_CLASSES) {
            faults.add("rule 11: " + classes + " classes");
        }
        fields.forEach((name, count) -> {
            if (count > MOST_FIELDS) {
                faults.add("rule 11: " + name + " has " + count + " fields");
            }
        });
        publicNames.retainAll(privateNames);
        if (!publicNames.isEmpty()) {
            faults.add("rule 1: private methods with names of public ones: " + publicNames);
        }
        for (Element method : calls.keySet()) {
            if (depthOf(method) > MOST_DEPTH) {
                faults.add("rule 11: calls from " + method + " go " + depthOf(method) + " deep");
            }
        }
    }

    /** How deep calls go from a method, itself counted. */
    private int depthOf(Element method) {
        if (depths.containsKey(method)) {
            return depths.get(method);
        }
        if (!open.add(method)) {
            faults.add("rule 8: " + method + " comes back to itself");
            return 1;
        }
        int deepest = 0;
        for (Element called : calls.getOrDefault(method, Set.of())) {
            deepest = Math.max(deepest, depthOf(called));
        }
        open.remove(method);
        depths.put(method, deepest + 1);
        return deepest + 1;
    }

    private final class Looker extends TreePathScanner<Void, Void> {
        private int loops;

        private void fault(int rule, Tree where, String what) {
            long at = trees.getSourcePositions().getStartPosition(unit, where);
            faults.add("rule " + rule + ", line " + unit.getLineMap().getLineNumber(at) + ": " + what);
        }

        private Element elementOf(Tree tree) {
            return trees.getElement(new TreePath(getCurrentPath(), tree));
        }

        private TypeMirror typeOf(Tree tree) {
            return trees.getTypeMirror(new TreePath(getCurrentPath(), tree));
        }

        private boolean isOwn(Element element) {
            Element top = element;
            while (top.getKind() != ElementKind.PACKAGE && top.getEnclosingElement() != null
                    && top.getEnclosingElement().getKind() != ElementKind.PACKAGE) {
                top = top.getEnclosingElement();
            }
            return top.getSimpleName().contentEquals("Peepholery");
        }

        private boolean isText(TypeMirror type) {
            return type != null && type.toString().equals("java.lang.String");
        }

        @Override
        public Void visitClass(ClassTree tree, Void none) {
            classes++;
            Set<Modifier> modifiers = tree.getModifiers().getFlags();
            boolean isInner = getCurrentPath().getParentPath().getLeaf() instanceof ClassTree;
            boolean isTop = getCurrentPath().getParentPath().getLeaf() instanceof CompilationUnitTree;
            if (isTop && !(modifiers.contains(Modifier.PUBLIC) && modifiers.contains(Modifier.FINAL))) {
                fault(1, tree, "the class is not public and final");
            }
            if (!isTop && (!isInner || !modifiers.contains(Modifier.STATIC) || modifiers.contains(Modifier.PUBLIC))) {
                fault(2, tree, tree.getSimpleName() + " is no static class inside");
            }
            for (Tree member : tree.getMembers()) {
                if (member instanceof BlockTree) {
                    fault(5, member, "an initialiser block");
                }
            }
            return super.visitClass(tree, none);
        }

        @Override
        public Void visitMethod(MethodTree tree, Void none) {
            ExecutableElement method = (ExecutableElement) trees.getElement(getCurrentPath());
            calls.putIfAbsent(method, new HashSet<>());
            boolean isFace = method.getEnclosingElement().getSimpleName().contentEquals("Peepholery");
            if (isFace && method.getKind() == ElementKind.METHOD) {
                boolean isPublic = method.getModifiers().contains(Modifier.PUBLIC);
                (isPublic ? publicNames : privateNames).add(method.getSimpleName().toString());
            } else if (method.getModifiers().contains(Modifier.PRIVATE)) {
                privateNames.add(method.getSimpleName().toString());
            }
            if (tree.getParameters().size() > MOST_PARAMETERS) {
                fault(11, tree, tree.getName() + " takes " + tree.getParameters().size());
            }
            long first = trees.getSourcePositions().getStartPosition(unit, tree);
            long last = trees.getSourcePositions().getEndPosition(unit, tree);
            long lines = unit.getLineMap().getLineNumber(last) - unit.getLineMap().getLineNumber(first) + 1;
            if (lines > MOST_LINES) {
                fault(11, tree, tree.getName() + " has " + lines + " lines");
            }
            if (List.of("equals", "hashCode", "toString").contains(tree.getName().toString())) {
                fault(6, tree, tree.getName() + " of an own class");
            }
            return super.visitMethod(tree, none);
        }

        @Override
        public Void visitVariable(VariableTree tree, Void none) {
            Element variable = trees.getElement(getCurrentPath());
            checkType(tree, variable.asType());
            if (variable.getKind() == ElementKind.FIELD) {
                boolean isStatic = variable.getModifiers().contains(Modifier.STATIC);
                if (isStatic && !variable.getModifiers().contains(Modifier.FINAL)) {
                    fault(5, tree, tree.getName() + " is static and not final");
                }
                if (isStatic && !(variable.asType().getKind().isPrimitive() || isText(variable.asType()))) {
                    fault(5, tree, tree.getName() + " is no constant");
                }
                if (!isStatic) {
                    fields.merge(variable.getEnclosingElement().toString(), 1, Integer::sum);
                }
            }
            return super.visitVariable(tree, none);
        }

        private void checkType(Tree where, TypeMirror type) {
            if (type.getKind() == TypeKind.ARRAY) {
                TypeMirror part = ((ArrayType) type).getComponentType();
                boolean isDeep = part.getKind() == TypeKind.ARRAY
                        && !((ArrayType) part).getComponentType().getKind().isPrimitive();
                if (isDeep || isText(part)) {
                    fault(3, where, "an array of " + part);
                }
                checkType(where, isDeep ? ((ArrayType) part).getComponentType() : part);
            } else if (type.getKind() == TypeKind.DECLARED) {
                TypeElement element = (TypeElement) ((DeclaredType) type).asElement();
                String name = element.getSimpleName().toString();
                boolean isList = name.equals("List") || name.equals("ArrayList");
                if (!isOwn(element) && !isText(type) && !isList && !name.equals("StringBuilder")) {
                    fault(3, where, "the type " + type);
                }
                for (TypeMirror argument : ((DeclaredType) type).getTypeArguments()) {
                    if (!(argument instanceof DeclaredType kept) || !isOwn(kept.asElement())) {
                        fault(3, where, "a list of " + argument);
                    }
                }
            }
        }

        @Override
        public Void visitMethodInvocation(MethodInvocationTree tree, Void none) {
            note(elementOf(tree), tree, "");
            return super.visitMethodInvocation(tree, none);
        }

        @Override
        public Void visitNewClass(NewClassTree tree, Void none) {
            Element made = elementOf(tree);
            if (tree.getClassBody() != null) {
                fault(2, tree, "a class without a name");
            }
            boolean isThrown = getCurrentPath().getParentPath().getLeaf() instanceof ThrowTree;
            if (!isThrown) {
                note(made, tree, "new ");
                forbidInLoop(tree);
            }
            return super.visitNewClass(tree, none);
        }

        private void note(Element called, Tree where, String prefix) {
            Element home = called.getEnclosingElement();
            if (isOwn(called)) {
                Element caller = callerOf();
                if (caller != null && !(called.getSimpleName().contentEquals("<init>") && prefix.isEmpty())) {
                    calls.computeIfAbsent(caller, c -> new HashSet<>()).add(called);
                }
                return;
            }
            if (home.toString().equals("java.lang.Object") && called.getSimpleName().contentEquals("<init>")) {
                return;
            }
            boolean isMade = !prefix.isEmpty();
            String name = isMade ? "new " + home.getSimpleName() : home.getSimpleName() + "." + called.getSimpleName();
            StringBuilder taken = new StringBuilder(name).append('(');
            ((ExecutableElement) called).getParameters().forEach(p -> taken.append(p.asType()));
            if (!LIBRARY.contains(name) && !LIBRARY.contains(taken.append(')').toString())) {
                fault(4, where, taken.toString());
            }
        }

        private Element callerOf() {
            for (TreePath path = getCurrentPath(); path != null; path = path.getParentPath()) {
                if (path.getLeaf() instanceof MethodTree) {
                    return trees.getElement(path);
                }
            }
            return null;
        }

        private void forbidInLoop(Tree tree) {
            if (loops > 0) {
                fault(12, tree, "made in a loop");
            }
        }

        @Override
        public Void visitNewArray(NewArrayTree tree, Void none) {
            forbidInLoop(tree);
            return super.visitNewArray(tree, none);
        }

        @Override
        public Void visitThrow(ThrowTree tree, Void none) {
            ExpressionTree thrown = tree.getExpression();
            boolean isPlain = thrown instanceof NewClassTree made
                    && EXCEPTIONS.contains(made.getIdentifier().toString())
                    && made.getArguments().stream().allMatch(a -> a instanceof LiteralTree);
            if (!isPlain || callerOf() == null || callerOf().getKind() == ElementKind.CONSTRUCTOR) {
                fault(6, tree, tree.toString());
            }
            return super.visitThrow(tree, none);
        }

        @Override
        public Void visitLiteral(LiteralTree tree, Void none) {
            if (tree.getValue() instanceof String text && !text.chars().allMatch(c -> c >= 1 && c <= 127)) {
                fault(4, tree, "a sign beyond 127");
            }
            return super.visitLiteral(tree, none);
        }

        @Override
        public Void visitBinary(BinaryTree tree, Void none) {
            boolean isComparison = tree.getKind() == Tree.Kind.EQUAL_TO || tree.getKind() == Tree.Kind.NOT_EQUAL_TO;
            boolean isText = isText(typeOf(tree.getLeftOperand())) || isText(typeOf(tree.getRightOperand()));
            if (isText && (isComparison || tree.getKind() == Tree.Kind.PLUS)) {
                fault(isComparison ? 6 : 10, tree, tree.toString());
            }
            return super.visitBinary(tree, none);
        }

        @Override
        public Void visitCompoundAssignment(CompoundAssignmentTree tree, Void none) {
            if (isText(typeOf(tree.getVariable()))) {
                fault(10, tree, tree.toString());
            }
            return super.visitCompoundAssignment(tree, none);
        }

        @Override
        public Void visitTypeCast(TypeCastTree tree, Void none) {
            if (!typeOf(tree.getType()).getKind().isPrimitive()) {
                fault(6, tree, tree.toString());
            }
            return super.visitTypeCast(tree, none);
        }

        @Override
        public Void visitEnhancedForLoop(EnhancedForLoopTree tree, Void none) {
            if (typeOf(tree.getExpression()).getKind() != TypeKind.ARRAY) {
                fault(12, tree, "a loop that makes an iterator");
            }
            loops++;
            super.visitEnhancedForLoop(tree, none);
            loops--;
            return null;
        }

        @Override
        public Void visitForLoop(ForLoopTree tree, Void none) {
            if (tree.getCondition() == null) {
                fault(9, tree, "a loop without an end");
            }
            loops++;
            super.visitForLoop(tree, none);
            loops--;
            return null;
        }

        @Override
        public Void visitWhileLoop(WhileLoopTree tree, Void none) {
            loops++;
            super.visitWhileLoop(tree, none);
            loops--;
            return null;
        }

        @Override
        public Void visitDoWhileLoop(DoWhileLoopTree tree, Void none) {
            loops++;
            super.visitDoWhileLoop(tree, none);
            loops--;
            return null;
        }

        @Override
        public Void visitLambdaExpression(LambdaExpressionTree tree, Void none) {
            fault(2, tree, "a lambda");
            return super.visitLambdaExpression(tree, none);
        }

        @Override
        public Void visitMemberReference(MemberReferenceTree tree, Void none) {
            fault(2, tree, "a method reference");
            return super.visitMemberReference(tree, none);
        }

        @Override
        public Void visitMemberSelect(MemberSelectTree tree, Void none) {
            Element selected = trees.getElement(getCurrentPath());
            boolean isForeign = selected != null && selected.getKind() == ElementKind.FIELD
                    && !tree.getIdentifier().contentEquals("length") && !isOwn(selected);
            if (isForeign) {
                fault(4, tree, tree.toString());
            }
            return super.visitMemberSelect(tree, none);
        }

        @Override
        public Void visitTry(TryTree tree, Void none) {
            fault(6, tree, "a try");
            return super.visitTry(tree, none);
        }

        @Override
        public Void visitSynchronized(SynchronizedTree tree, Void none) {
            fault(6, tree, "synchronized");
            return super.visitSynchronized(tree, none);
        }

        @Override
        public Void visitAssert(AssertTree tree, Void none) {
            fault(6, tree, "an assert");
            return super.visitAssert(tree, none);
        }

        @Override
        public Void visitInstanceOf(InstanceOfTree tree, Void none) {
            fault(6, tree, "the class needs no instanceof");
            return super.visitInstanceOf(tree, none);
        }
    }
}
