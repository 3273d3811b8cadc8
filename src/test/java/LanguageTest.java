import com.sun.source.tree.AssertTree;
import com.sun.source.tree.BinaryTree;
import com.sun.source.tree.ClassTree;
import com.sun.source.tree.CompilationUnitTree;
import com.sun.source.tree.ExpressionTree;
import com.sun.source.tree.ImportTree;
import com.sun.source.tree.LambdaExpressionTree;
import com.sun.source.tree.LineMap;
import com.sun.source.tree.LiteralTree;
import com.sun.source.tree.MemberReferenceTree;
import com.sun.source.tree.MethodInvocationTree;
import com.sun.source.tree.MethodTree;
import com.sun.source.tree.NewClassTree;
import com.sun.source.tree.SynchronizedTree;
import com.sun.source.tree.ThrowTree;
import com.sun.source.tree.Tree;
import com.sun.source.tree.TryTree;
import com.sun.source.tree.VariableTree;
import com.sun.source.util.JavacTask;
import com.sun.source.util.TreePath;
import com.sun.source.util.TreePathScanner;
import com.sun.source.util.Trees;
import java.io.File;
import java.io.IOException;
import java.util.ArrayList;
import java.util.HashMap;
import java.util.HashSet;
import java.util.LinkedHashMap;
import java.util.LinkedHashSet;
import java.util.List;
import java.util.Map;
import java.util.Set;
import javax.lang.model.element.Element;
import javax.lang.model.element.ExecutableElement;
import javax.lang.model.element.Modifier;
import javax.lang.model.element.TypeElement;
import javax.lang.model.type.TypeKind;
import javax.tools.JavaCompiler;
import javax.tools.StandardJavaFileManager;
import javax.tools.ToolProvider;

/**
 * The rules of LANGUAGE.md that can be seen in the source of the class: what it takes of the library, its static
 * fields, what it throws, and how long, how wide and how deep it is.
 */
final class LanguageTest extends TreePathScanner<Void, Void> {
    private static final Checks checks = new Checks();
    /** Of the library, what rule 4 lists and the class needs; another one of that list may be added here. */
    private static final Set<String> LIBRARY = Set.of("String.length", "String.charAt", "Math.max", "Math.min");
    private static final Set<String> THROWN = Set.of("IllegalStateException", "IllegalArgumentException",
            "IndexOutOfBoundsException", "ArithmeticException", "UnsupportedOperationException",
            "NoSuchElementException", "RuntimeException");
    private static final Set<String> STATIC_TYPES = Set.of("int", "long", "boolean", "char", "String", "int[]",
            "long[]", "char[]", "byte[]");
    private static final int DEEPEST = 8;

    private final CompilationUnitTree unit;
    private final Trees trees;
    /** The methods of the class, and those that each of them may call. */
    private final Map<Element, Set<Element>> calls = new LinkedHashMap<>();
    private final Set<TypeElement> classes = new LinkedHashSet<>();

    private LanguageTest(CompilationUnitTree unit, Trees trees) {
        this.unit = unit;
        this.trees = trees;
    }

    public static void main(String[] args) throws IOException {
        File source = new File(args.length > 0 ? args[0] : ".", "src/main/java/LoopFuser.java");
        JavaCompiler compiler = ToolProvider.getSystemJavaCompiler();
        if (compiler == null) {
            System.out.println("NOT LOOKED AT: this java has no compiler inside, so the source can't be read");
            return;
        }
        try (StandardJavaFileManager files = compiler.getStandardFileManager(null, null, null)) {
            JavacTask task = (JavacTask) compiler.getTask(null, files, null, List.of("-proc:none"), null,
                    files.getJavaFileObjects(source));
            CompilationUnitTree unit = task.parse().iterator().next();
            task.analyze();
            LanguageTest test = new LanguageTest(unit, Trees.instance(task));
            test.scan(new TreePath(unit), null);
            test.checkClasses();
            test.checkDepth();
        }
        checks.finish();
    }

    private void rule(int number, String what, boolean holds) {
        checks.due("rule " + number + ": " + what, true, holds);
    }

    private long lines(Tree tree) {
        LineMap map = unit.getLineMap();
        long start = map.getLineNumber(trees.getSourcePositions().getStartPosition(unit, tree));
        return map.getLineNumber(trees.getSourcePositions().getEndPosition(unit, tree)) - start + 1;
    }

    private static String nameOf(Element element) {
        return element.getEnclosingElement().getSimpleName() + "." + element.getSimpleName();
    }

    private void checkClasses() {
        int outside = 0;
        for (TypeElement type : classes) {
            outside += type.getEnclosingElement() instanceof TypeElement ? 0 : 1;
        }
        rule(1, "one class in the file that is not inside another", outside == 1);
        rule(11, "some twelve classes, not " + classes.size(), classes.size() <= 12);
        rule(11, "there are classes and methods to be looked at", classes.size() > 1 && calls.size() > 32);
    }

    @Override
    public Void visitCompilationUnit(CompilationUnitTree tree, Void none) {
        rule(1, "no package line", tree.getPackageName() == null);
        return super.visitCompilationUnit(tree, none);
    }

    @Override
    public Void visitImport(ImportTree tree, Void none) {
        rule(4, tree.toString().trim(), tree.toString().contains("java.util.NoSuchElementException"));
        return super.visitImport(tree, none);
    }

    @Override
    public Void visitClass(ClassTree tree, Void none) {
        TypeElement type = (TypeElement) trees.getElement(getCurrentPath());
        classes.add(type);
        int fields = 0;
        for (Tree member : tree.getMembers()) {
            boolean field = member instanceof VariableTree;
            fields += field && !((VariableTree) member).getModifiers().getFlags().contains(Modifier.STATIC) ? 1 : 0;
            rule(5, "no initialiser block in " + type, member.getKind() != Tree.Kind.BLOCK);
        }
        rule(11, "some twenty fields in " + type + ", not " + fields, fields <= 20);
        boolean inside = type.getEnclosingElement() instanceof TypeElement;
        boolean shown = type.getModifiers().contains(Modifier.PUBLIC) || type.getModifiers().contains(Modifier.PROTECTED);
        rule(1, type + " is public, or else static inside the public one",
                inside ? !shown && type.getModifiers().contains(Modifier.STATIC) : shown);
        return super.visitClass(tree, none);
    }

    @Override
    public Void visitVariable(VariableTree tree, Void none) {
        Set<Modifier> flags = tree.getModifiers().getFlags();
        if (flags.contains(Modifier.STATIC)) {
            rule(5, "static " + tree.getName() + " is final", flags.contains(Modifier.FINAL));
            rule(5, "the type of static " + tree.getName(), STATIC_TYPES.contains(tree.getType().toString()));
        }
        return super.visitVariable(tree, none);
    }

    @Override
    public Void visitMethod(MethodTree tree, Void none) {
        Element method = trees.getElement(getCurrentPath());
        calls.computeIfAbsent(method, key -> new LinkedHashSet<>());
        rule(11, nameOf(method) + " takes at most seven parameters", tree.getParameters().size() <= 7);
        rule(11, nameOf(method) + " has some sixty lines at most", tree.getBody() == null || lines(tree) <= 60);
        rule(6, "no equals, hashCode or toString, as " + nameOf(method),
                !Set.of("equals", "hashCode", "toString", "finalize").contains(tree.getName().toString()));
        return super.visitMethod(tree, none);
    }

    /** The method around what is looked at, or null in the initialiser of a field. */
    private Element around() {
        for (TreePath path = getCurrentPath(); path != null; path = path.getParentPath()) {
            if (path.getLeaf() instanceof MethodTree) {
                return trees.getElement(path);
            }
        }
        return null;
    }

    @Override
    public Void visitMethodInvocation(MethodInvocationTree tree, Void none) {
        ExecutableElement called = (ExecutableElement) trees.getElement(getCurrentPath());
        if (called.getSimpleName().contentEquals("<init>")) {
            return super.visitMethodInvocation(tree, none);
        }
        if (isOwn(called)) {
            calls.computeIfAbsent(around(), key -> new LinkedHashSet<>()).add(called);
        } else {
            rule(4, nameOf(called) + " stands in the list", LIBRARY.contains(nameOf(called)));
        }
        return super.visitMethodInvocation(tree, none);
    }

    private static boolean isOwn(Element element) {
        for (Element at = element; at != null; at = at.getEnclosingElement()) {
            if (at.getSimpleName().contentEquals("LoopFuser")) {
                return true;
            }
        }
        return false;
    }

    @Override
    public Void visitNewClass(NewClassTree tree, Void none) {
        String name = tree.getIdentifier().toString();
        boolean exception = THROWN.contains(name);
        rule(4, "new " + name, exception || isOwn(trees.getElement(getCurrentPath())));
        rule(6, "new " + name + " is thrown at once",
                !exception || getCurrentPath().getParentPath().getLeaf() instanceof ThrowTree);
        rule(2, "new " + name + " has no body of its own", tree.getClassBody() == null);
        return super.visitNewClass(tree, none);
    }

    @Override
    public Void visitThrow(ThrowTree tree, Void none) {
        boolean made = tree.getExpression() instanceof NewClassTree;
        rule(6, "thrown: " + tree, made && THROWN.contains(((NewClassTree) tree.getExpression()).getIdentifier().toString()));
        for (ExpressionTree text : made ? ((NewClassTree) tree.getExpression()).getArguments() : List.<ExpressionTree>of()) {
            rule(6, "a written text in " + tree, text instanceof LiteralTree);
        }
        Element method = around();
        rule(6, "no throw in a constructor: " + tree,
                method != null && !method.getSimpleName().contentEquals("<init>"));
        return super.visitThrow(tree, none);
    }

    @Override
    public Void visitTry(TryTree tree, Void none) {
        rule(6, "the class needs no try", false);
        return super.visitTry(tree, none);
    }

    @Override
    public Void visitLambdaExpression(LambdaExpressionTree tree, Void none) {
        rule(2, "no lambda, as " + tree, false);
        return super.visitLambdaExpression(tree, none);
    }

    @Override
    public Void visitMemberReference(MemberReferenceTree tree, Void none) {
        rule(2, "no method reference, as " + tree, false);
        return super.visitMemberReference(tree, none);
    }

    @Override
    public Void visitSynchronized(SynchronizedTree tree, Void none) {
        rule(6, "no synchronized", false);
        return super.visitSynchronized(tree, none);
    }

    @Override
    public Void visitAssert(AssertTree tree, Void none) {
        rule(6, "no assert", false);
        return super.visitAssert(tree, none);
    }

    @Override
    public Void visitBinary(BinaryTree tree, Void none) {
        boolean numbers = trees.getTypeMirror(getCurrentPath()).getKind() != TypeKind.DECLARED;
        rule(10, "texts are not joined by +: " + tree, numbers || tree.getKind() != Tree.Kind.PLUS);
        return super.visitBinary(tree, none);
    }

    /** A call of an interface's method counts as one of each method that may answer it. */
    private void checkDepth() {
        Map<Element, Set<Element>> open = new LinkedHashMap<>();
        for (Element method : calls.keySet()) {
            Set<Element> targets = new LinkedHashSet<>();
            for (Element called : calls.get(method)) {
                targets.addAll(answering(called));
            }
            open.put(method, targets);
        }
        Map<Element, Set<Element>> reached = new HashMap<>();
        for (Element method : open.keySet()) {
            Set<Element> all = new HashSet<>();
            reach(method, open, all);
            reached.put(method, all);
        }
        Map<Element, List<String>> longest = new HashMap<>();
        for (Element method : open.keySet()) {
            List<String> chain = chain(method, open, reached, longest);
            rule(11, "calls that are no recursion go at most eight deep: " + chain, chain.size() <= DEEPEST);
        }
    }

    private List<Element> answering(Element called) {
        List<Element> methods = new ArrayList<>();
        for (Element method : calls.keySet()) {
            boolean same = method.equals(called);
            boolean implementing = called.getEnclosingElement().getKind().isInterface()
                    && method != null && method.toString().equals(called.toString());
            if (same || implementing) {
                methods.add(method);
            }
        }
        return methods;
    }

    private static void reach(Element from, Map<Element, Set<Element>> open, Set<Element> all) {
        for (Element to : open.getOrDefault(from, Set.of())) {
            if (all.add(to)) {
                reach(to, open, all);
            }
        }
    }

    /** The longest chain of calls from a method on, where methods that call one another count once. */
    private static List<String> chain(Element method, Map<Element, Set<Element>> open,
            Map<Element, Set<Element>> reached, Map<Element, List<String>> longest) {
        if (longest.containsKey(method)) {
            return longest.get(method);
        }
        Set<Element> together = new LinkedHashSet<>();
        together.add(method);
        for (Element other : reached.get(method)) {
            if (reached.get(other).contains(method)) {
                together.add(other);
            }
        }
        List<String> best = List.of();
        for (Element member : together) {
            for (Element to : open.getOrDefault(member, Set.of())) {
                List<String> rest = together.contains(to) ? List.of() : chain(to, open, reached, longest);
                best = rest.size() > best.size() ? rest : best;
            }
        }
        List<String> chain = new ArrayList<>(best);
        chain.add(0, method == null ? "a field" : nameOf(method));
        longest.put(method, chain);
        return chain;
    }
}
