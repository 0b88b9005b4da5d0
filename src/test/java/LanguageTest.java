import com.sun.source.tree.AssertTree;
import com.sun.source.tree.BinaryTree;
import com.sun.source.tree.BlockTree;
import com.sun.source.tree.ClassTree;
import com.sun.source.tree.CompilationUnitTree;
import com.sun.source.tree.DoWhileLoopTree;
import com.sun.source.tree.ForLoopTree;
import com.sun.source.tree.ImportTree;
import com.sun.source.tree.InstanceOfTree;
import com.sun.source.tree.LambdaExpressionTree;
import com.sun.source.tree.LiteralTree;
import com.sun.source.tree.MemberReferenceTree;
import com.sun.source.tree.MemberSelectTree;
import com.sun.source.tree.MethodInvocationTree;
import com.sun.source.tree.MethodTree;
import com.sun.source.tree.NewArrayTree;
import com.sun.source.tree.NewClassTree;
import com.sun.source.tree.SynchronizedTree;
import com.sun.source.tree.ThrowTree;
import com.sun.source.tree.Tree;
import com.sun.source.tree.TryTree;
import com.sun.source.tree.VariableTree;
import com.sun.source.tree.WhileLoopTree;
import com.sun.source.util.JavacTask;
import com.sun.source.util.TreePath;
import com.sun.source.util.TreePathScanner;
import com.sun.source.util.Trees;
import java.nio.file.Path;
import java.util.ArrayList;
import java.util.HashMap;
import java.util.LinkedHashSet;
import java.util.List;
import java.util.Map;
import java.util.Set;
import java.util.TreeSet;
import javax.lang.model.element.Element;
import javax.lang.model.element.ExecutableElement;
import javax.lang.model.element.Modifier;
import javax.lang.model.element.TypeElement;
import javax.tools.JavaCompiler;
import javax.tools.StandardJavaFileManager;
import javax.tools.ToolProvider;

/** The rules of ../shared/LANGUAGE.md, as far as they can be seen in the text of src/main/java/CryptHouse.java. */
public final class LanguageTest extends TreePathScanner<Void, Void> {
    private static final Set<String> LIBRARY = Set.of(
        "java.lang.System.arraycopy", "java.util.Arrays.fill", "java.util.Arrays.copyOf", "java.util.Arrays.copyOfRange",
        "java.lang.Math.min", "java.lang.Math.max", "java.lang.Math.abs", "java.lang.String.length", "java.lang.String.charAt");
    private static final Set<String> TYPES = Set.of("int", "long", "short", "byte", "char", "boolean", "void", "String");
    private static final Set<String> EXCEPTIONS = Set.of("IllegalStateException", "IllegalArgumentException",
        "IndexOutOfBoundsException", "ArithmeticException", "UnsupportedOperationException", "NoSuchElementException", "RuntimeException");
    private static final Set<String> OWN = new TreeSet<>();
    private static Trees trees;
    private static CompilationUnitTree unit;
    private final Map<String, Set<String>> calls = new HashMap<>();
    private final Map<String, Integer> fields = new HashMap<>();
    private final List<String> classes = new ArrayList<>();
    private final Set<String> publicNames = new TreeSet<>();
    private final Set<String> privateNames = new TreeSet<>();
    private String method = "";
    private int methods;

    public static void main(String[] args) throws Exception {
        JavaCompiler compiler = ToolProvider.getSystemJavaCompiler();
        StandardJavaFileManager files = compiler.getStandardFileManager(null, null, null);
        JavacTask task = (JavacTask) compiler.getTask(null, files, null, List.of("-proc:none"), null,
            files.getJavaFileObjects(Path.of("src/main/java/CryptHouse.java")));
        unit = task.parse().iterator().next();
        task.analyze();
        trees = Trees.instance(task);
        ClassTree whole = (ClassTree) unit.getTypeDecls().get(0);
        rule(1, "one class in the file", unit.getTypeDecls().size() == 1);
        OWN.add(whole.getSimpleName().toString());
        for (Tree member : whole.getMembers()) {
            if (member instanceof ClassTree c) {
                OWN.add(c.getSimpleName().toString());
            }
        }
        LanguageTest scan = new LanguageTest();
        scan.scan(unit, null);
        scan.sums();
        Check.end();
    }

    private static void rule(int number, String what, boolean kept) {
        Check.due("rule " + number + ": " + what, kept, true);
    }

    private String where(Tree tree) {
        return "line " + unit.getLineMap().getLineNumber(trees.getSourcePositions().getStartPosition(unit, tree)) + " " + tree.getKind();
    }

    private void none(int number, Tree tree) {
        rule(number, where(tree), false);
    }

    private boolean outer() {
        return classes.size() == 1 || getCurrentPath().getParentPath().getLeaf() instanceof ClassTree c
            && c.getSimpleName().contentEquals("CryptHouse");
    }

    @Override
    public Void visitImport(ImportTree tree, Void p) {
        String name = tree.getQualifiedIdentifier().toString();
        rule(4, name, name.equals("java.util.Arrays") || name.equals("java.util.NoSuchElementException"));
        return null;
    }

    @Override
    public Void visitClass(ClassTree tree, Void p) {
        Set<Modifier> flags = tree.getModifiers().getFlags();
        classes.add(tree.getSimpleName().toString());
        if (classes.size() == 1) {
            rule(1, "the class", tree.getSimpleName().contentEquals("CryptHouse") && flags.equals(Set.of(Modifier.PUBLIC, Modifier.FINAL)));
        } else {
            rule(2, tree.getSimpleName() + " is static", flags.contains(Modifier.STATIC) && !flags.contains(Modifier.PUBLIC)
                && !flags.contains(Modifier.PROTECTED) && tree.getKind() == Tree.Kind.CLASS && tree.getExtendsClause() == null);
        }
        int held = 0;
        for (Tree member : tree.getMembers()) {
            rule(5, where(member) + " is no block", !(member instanceof BlockTree));
            held += member instanceof VariableTree v && !v.getModifiers().getFlags().contains(Modifier.STATIC) ? 1 : 0;
        }
        fields.put(tree.getSimpleName().toString(), held);
        return super.visitClass(tree, p);
    }

    private static String base(Tree type) {
        String name = type == null ? "void" : type.toString();
        return name.replace("[]", "");
    }

    private void type(int number, Tree tree, Tree type) {
        String name = base(type);
        int deep = type == null ? 0 : (type.toString().length() - name.length()) / 2;
        boolean own = OWN.contains(name);
        rule(number, where(tree) + " of type " + type, (TYPES.contains(name) || own) && deep <= (own || name.equals("String") ? 1 : 2));
    }

    @Override
    public Void visitVariable(VariableTree tree, Void p) {
        type(3, tree, tree.getType());
        Set<Modifier> flags = tree.getModifiers().getFlags();
        boolean field = getCurrentPath().getParentPath().getLeaf() instanceof ClassTree;
        if (field && flags.contains(Modifier.STATIC)) {
            boolean array = tree.getType().toString().endsWith("[]");
            rule(5, where(tree) + " is final", flags.contains(Modifier.FINAL));
            rule(5, where(tree) + " is written out", tree.getInitializer() != null
                && (!array || tree.getInitializer() instanceof NewArrayTree n && n.getInitializers() != null));
            rule(5, where(tree) + " is a constant", Set.of("int", "long", "boolean", "char", "String", "int[]", "long[]", "char[]",
                "byte[]").contains(tree.getType().toString()));
        }
        if (field && outer()) {
            rule(1, where(tree) + " is private", flags.contains(Modifier.PRIVATE));
        }
        return super.visitVariable(tree, p);
    }

    private String owner(ExecutableElement e) {
        return ((TypeElement) e.getEnclosingElement()).getQualifiedName() + "." + e.getSimpleName();
    }

    private String key(ExecutableElement e) {
        return e.getEnclosingElement() + "." + e;
    }

    @Override
    public Void visitMethod(MethodTree tree, Void p) {
        Element e = trees.getElement(getCurrentPath());
        long start = unit.getLineMap().getLineNumber(trees.getSourcePositions().getStartPosition(unit, tree));
        long end = unit.getLineMap().getLineNumber(trees.getSourcePositions().getEndPosition(unit, tree));
        methods++;
        String before = method;
        method = key((ExecutableElement) e);
        calls.putIfAbsent(method, new LinkedHashSet<>());
        rule(11, method + " has at most seven parameters", tree.getParameters().size() <= 7);
        rule(11, method + " has some sixty lines: " + (end - start + 1), end - start + 1 <= 62);
        Set<Modifier> flags = tree.getModifiers().getFlags();
        boolean open = flags.contains(Modifier.PUBLIC);
        boolean constructor = tree.getReturnType() == null;
        if (!constructor) {
            type(3, tree, tree.getReturnType());
            (open ? publicNames : privateNames).add(tree.getName().toString());
        }
        if (e.getEnclosingElement().getSimpleName().contentEquals("CryptHouse")) {
            rule(1, method + " is public or private", open || flags.contains(Modifier.PRIVATE));
        } else {
            rule(1, method + " is of no face", !open && !flags.contains(Modifier.PROTECTED));
        }
        for (var thrown : tree.getThrows()) {
            rule(6, where(tree), open && EXCEPTIONS.contains(thrown.toString()));
        }
        super.visitMethod(tree, p);
        method = before;
        return null;
    }

    private void called(Tree tree, Element e) {
        if (!(e instanceof ExecutableElement made)) {
            rule(4, where(tree) + " is known", false);
            return;
        }
        String owner = ((TypeElement) made.getEnclosingElement()).getQualifiedName().toString();
        if (owner.startsWith("CryptHouse")) {
            calls.computeIfAbsent(method, k -> new LinkedHashSet<>()).add(key(made));
        } else if (!owner.equals("java.lang.Object")) {
            boolean exception = EXCEPTIONS.contains(made.getEnclosingElement().getSimpleName().toString());
            rule(4, where(tree) + " " + owner(made), LIBRARY.contains(owner(made)) || exception);
            calls.computeIfAbsent(method, k -> new LinkedHashSet<>()).add("library");
        }
    }

    @Override
    public Void visitMethodInvocation(MethodInvocationTree tree, Void p) {
        called(tree, trees.getElement(new TreePath(getCurrentPath(), tree.getMethodSelect())));
        return super.visitMethodInvocation(tree, p);
    }

    @Override
    public Void visitNewClass(NewClassTree tree, Void p) {
        called(tree, trees.getElement(getCurrentPath()));
        boolean exception = EXCEPTIONS.contains(tree.getIdentifier().toString());
        boolean thrown = getCurrentPath().getParentPath().getLeaf() instanceof ThrowTree;
        rule(6, where(tree) + " is thrown", exception == thrown);
        rule(2, where(tree) + " has no body", tree.getClassBody() == null);
        // Own objects are made once, in fields and constructors.
        rule(12, where(tree), exception || method.isEmpty() || method.contains("<init>") || constructing());
        return super.visitNewClass(tree, p);
    }

    private boolean constructing() {
        for (TreePath at = getCurrentPath(); at != null; at = at.getParentPath()) {
            if (at.getLeaf() instanceof MethodTree m) {
                return m.getReturnType() == null;
            }
        }
        return true;
    }

    @Override
    public Void visitNewArray(NewArrayTree tree, Void p) {
        boolean constant = tree.getInitializers() != null;
        rule(12, where(tree) + " in " + method, constant || constructing() || method.contains("newPoint"));
        return super.visitNewArray(tree, p);
    }

    @Override
    public Void visitThrow(ThrowTree tree, Void p) {
        rule(6, where(tree) + " is new", tree.getExpression() instanceof NewClassTree n && EXCEPTIONS.contains(n.getIdentifier().toString()));
        rule(6, where(tree) + " in no constructor", !constructing());
        return super.visitThrow(tree, p);
    }

    @Override
    public Void visitBinary(BinaryTree tree, Void p) {
        boolean text = tree.getLeftOperand().toString().startsWith("\"") || tree.getRightOperand().toString().startsWith("\"");
        rule(10, where(tree) + " joins no texts", !text);
        return super.visitBinary(tree, p);
    }

    @Override
    public Void visitForLoop(ForLoopTree tree, Void p) {
        rule(9, where(tree) + " has an end", tree.getCondition() != null && !tree.getCondition().toString().equals("true"));
        return super.visitForLoop(tree, p);
    }

    @Override
    public Void visitLiteral(LiteralTree tree, Void p) {
        rule(3, where(tree), !(tree.getValue() instanceof Double) && !(tree.getValue() instanceof Float));
        if (tree.getValue() instanceof String s) {
            for (int i = 0; i < s.length(); i++) {
                rule(4, where(tree), s.charAt(i) >= 1 && s.charAt(i) <= 127);
            }
        }
        return super.visitLiteral(tree, p);
    }

    @Override
    public Void visitMemberSelect(MemberSelectTree tree, Void p) {
        rule(4, where(tree) + " " + tree, !tree.toString().startsWith("java.") || tree.toString().startsWith("java.util"));
        return super.visitMemberSelect(tree, p);
    }

    @Override
    public Void visitWhileLoop(WhileLoopTree tree, Void p) {
        none(9, tree);
        return super.visitWhileLoop(tree, p);
    }

    @Override
    public Void visitDoWhileLoop(DoWhileLoopTree tree, Void p) {
        none(9, tree);
        return super.visitDoWhileLoop(tree, p);
    }

    @Override
    public Void visitLambdaExpression(LambdaExpressionTree tree, Void p) {
        none(2, tree);
        return null;
    }

    @Override
    public Void visitMemberReference(MemberReferenceTree tree, Void p) {
        none(2, tree);
        return null;
    }

    @Override
    public Void visitTry(TryTree tree, Void p) {
        none(6, tree);
        return null;
    }

    @Override
    public Void visitSynchronized(SynchronizedTree tree, Void p) {
        none(6, tree);
        return null;
    }

    @Override
    public Void visitAssert(AssertTree tree, Void p) {
        none(6, tree);
        return null;
    }

    @Override
    public Void visitInstanceOf(InstanceOfTree tree, Void p) {
        none(6, tree);
        return null;
    }

    /** How deep calls go from a method on, itself counted; a call of itself is recursion and goes no deeper. */
    private int depth(String from, Set<String> open) {
        int most = 0;
        for (String to : calls.getOrDefault(from, Set.of())) {
            if (to.equals("library")) {
                most = Math.max(most, 1);
            } else if (!open.contains(to)) {
                open.add(to);
                most = Math.max(most, depth(to, open));
                open.remove(to);
            } else {
                rule(8, from + " calls " + to + " again", to.contains("prove(") && from.equals(to));
            }
        }
        return most + 1;
    }

    private void sums() {
        rule(11, "some twelve classes: " + classes.size(), classes.size() <= 12);
        for (Map.Entry<String, Integer> e : fields.entrySet()) {
            rule(11, e.getKey() + " has some twenty fields: " + e.getValue(), e.getValue() <= 20);
        }
        for (String name : privateNames) {
            rule(1, name + " is no name of the face", !publicNames.contains(name));
        }
        int deepest = 0;
        for (String from : calls.keySet()) {
            Set<String> open = new LinkedHashSet<>();
            open.add(from);
            int deep = depth(from, open);
            deepest = Math.max(deepest, deep);
            rule(11, from + " goes " + deep + " deep", deep <= 8);
        }
        System.out.println(methods + " methods, " + classes.size() + " classes, calls " + deepest + " deep");
    }
}
