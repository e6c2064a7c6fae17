import com.sun.source.tree.AssertTree;
import com.sun.source.tree.BlockTree;
import com.sun.source.tree.ClassTree;
import com.sun.source.tree.CompilationUnitTree;
import com.sun.source.tree.EnhancedForLoopTree;
import com.sun.source.tree.ForLoopTree;
import com.sun.source.tree.LambdaExpressionTree;
import com.sun.source.tree.LiteralTree;
import com.sun.source.tree.MemberReferenceTree;
import com.sun.source.tree.MethodInvocationTree;
import com.sun.source.tree.MethodTree;
import com.sun.source.tree.NewClassTree;
import com.sun.source.tree.SynchronizedTree;
import com.sun.source.tree.ThrowTree;
import com.sun.source.tree.Tree;
import com.sun.source.tree.TryTree;
import com.sun.source.tree.TypeCastTree;
import com.sun.source.tree.VariableTree;
import com.sun.source.util.JavacTask;
import com.sun.source.util.TreePath;
import com.sun.source.util.TreePathScanner;
import com.sun.source.util.Trees;
import java.io.File;
import java.io.IOException;
import java.util.HashMap;
import java.util.LinkedHashSet;
import java.util.List;
import java.util.Map;
import java.util.Set;
import java.util.TreeMap;
import java.util.TreeSet;
import javax.lang.model.element.Element;
import javax.lang.model.element.ElementKind;
import javax.lang.model.element.Modifier;
import javax.lang.model.element.TypeElement;
import javax.lang.model.type.ArrayType;
import javax.lang.model.type.TypeKind;
import javax.lang.model.type.TypeMirror;
import javax.tools.JavaCompiler;
import javax.tools.StandardJavaFileManager;
import javax.tools.ToolProvider;

/** The rules of LANGUAGE.md that can be read off the class's source, as the compiler understands it. */
final class LanguageTest extends TreePathScanner<Void, Void> {
    private static final int MOST_PARAMETERS = 7, MOST_LINES = 60, MOST_DEEP = 8, MOST_CLASSES = 12, MOST_FIELDS = 20;
    private static final String LIBRARY = "java\\.util\\.Arrays\\.(copyOf|copyOfRange|fill)"
        + "|java\\.lang\\.System\\.arraycopy|java\\.lang\\.(Integer|Long|Math)\\.\\w+(?<!Exact)";
    private static final Set<TypeKind> NUMBERS = Set.of(TypeKind.INT, TypeKind.LONG, TypeKind.SHORT, TypeKind.BYTE,
        TypeKind.CHAR, TypeKind.BOOLEAN);

    private final Due due = new Due("LanguageTest");
    private final Trees trees;
    private final CompilationUnitTree unit;
    private final Map<Element, Set<Element>> calls = new HashMap<>();
    private final Map<String, Integer> classes = new TreeMap<>();
    private final Set<String> face = new TreeSet<>();

    private LanguageTest(Trees trees, CompilationUnitTree unit) {
        this.trees = trees;
        this.unit = unit;
    }

    public static void main(String[] args) throws IOException {
        JavaCompiler compiler = ToolProvider.getSystemJavaCompiler();
        try (StandardJavaFileManager files = compiler.getStandardFileManager(null, null, null)) {
            File source = new File(System.getProperty("vault.source", "src/main/java/HouseholdVault.java"));
            JavacTask task = (JavacTask) compiler.getTask(null, files, null, List.of("-proc:none"), null,
                files.getJavaFileObjects(source));
            CompilationUnitTree unit = task.parse().iterator().next();
            task.analyze();
            new LanguageTest(Trees.instance(task), unit).look();
        }
    }

    private void look() {
        due.holds("there is no package line", unit.getPackage() == null);
        due.is("classes that stand alone", unit.getTypeDecls().size(), 1);
        for (Tree one : unit.getImports()) {
            due.holds(one + " is allowed", one.toString().strip().matches("import java\\.util\\.(Arrays|ArrayList|List);"));
        }
        scan(unit, null);
        due.holds("there are at most " + MOST_CLASSES + " classes: " + classes.keySet(), classes.size() <= MOST_CLASSES);
        classes.forEach((name, fields) -> due.holds(name + " has at most " + MOST_FIELDS + " fields: " + fields,
            fields <= MOST_FIELDS));
        for (Element method : calls.keySet()) {
            boolean hidden = method.getKind() == ElementKind.METHOD && method.getModifiers().contains(Modifier.PRIVATE);
            due.holds(nameOf(method) + " bears the name of no public one",
                !hidden || !face.contains(method.getSimpleName().toString()));
            String chain = deepest(method, new TreeSet<>());
            due.holds("calls go at most " + MOST_DEEP + " deep: " + chain, chain.split(" > ").length <= MOST_DEEP);
        }
        due.end();
    }

    /** The longest chain of calls that a method begins, the library's own call counted too. */
    private String deepest(Element method, Set<String> open) {
        String name = nameOf(method);
        due.holds(name + " calls itself nowhere, so that its depth has an end", !open.contains(name));
        if (open.contains(name)) return name;
        Set<String> with = new TreeSet<>(open);
        with.add(name);
        String best = "";
        for (Element called : calls.getOrDefault(method, Set.of())) {
            String one = " > " + deepest(called, with);
            if (one.split(" > ").length > best.split(" > ").length) best = one;
        }
        return name + best;
    }

    private static String nameOf(Element method) {
        return method.getEnclosingElement() + "." + method;
    }

    private String at(Tree tree) {
        return "line " + unit.getLineMap().getLineNumber(startOf(tree)) + ": ";
    }

    private long startOf(Tree tree) {
        return trees.getSourcePositions().getStartPosition(unit, tree);
    }

    private long linesOf(Tree tree) {
        long first = unit.getLineMap().getLineNumber(startOf(tree));
        return unit.getLineMap().getLineNumber(trees.getSourcePositions().getEndPosition(unit, tree)) - first + 1;
    }

    private Void never(Tree tree, String what) {
        due.holds(at(tree) + "there is no " + what, false);
        return null;
    }

    private static boolean isOwn(TypeMirror type) {
        return type.getKind() == TypeKind.DECLARED && type.toString().matches("HouseholdVault(\\.\\w+)?");
    }

    /** Numbers, texts, own classes; arrays of one dimension of numbers and own classes, of two of numbers. */
    private static boolean isAllowed(TypeMirror type) {
        if (type.getKind() != TypeKind.ARRAY) {
            return NUMBERS.contains(type.getKind()) || isOwn(type) || type.toString().equals("java.lang.String");
        }
        TypeMirror of = ((ArrayType) type).getComponentType();
        if (of.getKind() == TypeKind.ARRAY) return NUMBERS.contains(((ArrayType) of).getComponentType().getKind());
        return NUMBERS.contains(of.getKind()) || isOwn(of);
    }

    @Override
    public Void visitClass(ClassTree tree, Void none) {
        TypeElement self = (TypeElement) trees.getElement(getCurrentPath());
        boolean inside = self.getEnclosingElement().getKind().isClass();
        if (inside) {
            due.holds(self + " is static", self.getModifiers().contains(Modifier.STATIC));
            due.holds(self + " shows nothing outside", !self.getModifiers().contains(Modifier.PUBLIC)
                && !self.getModifiers().contains(Modifier.PROTECTED));
        } else {
            due.holds(self + " is HouseholdVault itself", self.getQualifiedName().contentEquals("HouseholdVault"));
        }
        int fields = 0;
        for (Element one : self.getEnclosedElements()) {
            if (one.getKind() == ElementKind.FIELD && !one.getModifiers().contains(Modifier.STATIC)) fields++;
        }
        classes.put(self.toString(), fields);
        for (Tree member : tree.getMembers()) {
            if (member instanceof BlockTree) never(member, "block that a class begins with");
        }
        return super.visitClass(tree, none);
    }

    @Override
    public Void visitMethod(MethodTree tree, Void none) {
        Element self = trees.getElement(getCurrentPath());
        calls.computeIfAbsent(self, any -> new LinkedHashSet<>());
        if (self.getModifiers().contains(Modifier.PUBLIC)) face.add(self.getSimpleName().toString());
        if (startOf(tree) < 0 || trees.getSourcePositions().getEndPosition(unit, tree) < 0) return null;
        due.holds(self + " takes at most " + MOST_PARAMETERS, tree.getParameters().size() <= MOST_PARAMETERS);
        due.holds(self + " has at most " + MOST_LINES + " lines: " + linesOf(tree), linesOf(tree) <= MOST_LINES);
        return super.visitMethod(tree, none);
    }

    @Override
    public Void visitVariable(VariableTree tree, Void none) {
        Element self = trees.getElement(getCurrentPath());
        due.holds(at(tree) + "the type " + self.asType() + " is allowed", isAllowed(self.asType()));
        if (self.getModifiers().contains(Modifier.STATIC)) {
            due.holds(at(tree) + self + " is final", self.getModifiers().contains(Modifier.FINAL));
            due.holds(at(tree) + self + " is a number", NUMBERS.contains(self.asType().getKind()));
        }
        return super.visitVariable(tree, none);
    }

    @Override
    public Void visitMethodInvocation(MethodInvocationTree tree, Void none) {
        Element called = trees.getElement(getCurrentPath());
        noteCall(called);
        boolean own = isOwn(called.getEnclosingElement().asType());
        String name = called.getEnclosingElement() + "." + called.getSimpleName();
        boolean implied = called.getKind() == ElementKind.CONSTRUCTOR;
        due.holds(at(tree) + name + " is allowed", own || implied || name.matches(LIBRARY));
        return super.visitMethodInvocation(tree, none);
    }

    @Override
    public Void visitNewClass(NewClassTree tree, Void none) {
        if (tree.getClassBody() != null) never(tree, "class without a name");
        Element made = trees.getElement(getCurrentPath());
        noteCall(made);
        due.holds(at(tree) + made + " is of an own class", isOwn(made.getEnclosingElement().asType()));
        return super.visitNewClass(tree, none);
    }

    private void noteCall(Element called) {
        if (called.getEnclosingElement().toString().equals("java.lang.Object")) return;
        TreePath path = getCurrentPath();
        while (path != null && path.getLeaf().getKind() != Tree.Kind.METHOD) path = path.getParentPath();
        if (path == null) return;
        calls.computeIfAbsent(trees.getElement(path), any -> new LinkedHashSet<>()).add(called);
    }

    @Override
    public Void visitForLoop(ForLoopTree tree, Void none) {
        due.holds(at(tree) + "a loop counts against a bound", tree.getCondition() != null && !tree.getUpdate().isEmpty());
        return super.visitForLoop(tree, none);
    }

    @Override
    public Void visitEnhancedForLoop(EnhancedForLoopTree tree, Void none) {
        TypeMirror over = trees.getTypeMirror(new TreePath(getCurrentPath(), tree.getExpression()));
        due.holds(at(tree) + "the loop is over an array", over.getKind() == TypeKind.ARRAY);
        return super.visitEnhancedForLoop(tree, none);
    }

    @Override
    public Void visitTypeCast(TypeCastTree tree, Void none) {
        TypeMirror to = trees.getTypeMirror(new TreePath(getCurrentPath(), tree.getType()));
        due.holds(at(tree) + "a cast is among numbers", NUMBERS.contains(to.getKind()));
        return super.visitTypeCast(tree, none);
    }

    @Override
    public Void visitLiteral(LiteralTree tree, Void none) {
        if (tree.getKind() == Tree.Kind.DOUBLE_LITERAL || tree.getKind() == Tree.Kind.FLOAT_LITERAL) {
            never(tree, "number that is not whole");
        }
        return null;
    }

    @Override
    public Void visitThrow(ThrowTree tree, Void none) {
        return never(tree, "throw");
    }

    @Override
    public Void visitTry(TryTree tree, Void none) {
        return never(tree, "try");
    }

    @Override
    public Void visitSynchronized(SynchronizedTree tree, Void none) {
        return never(tree, "synchronized");
    }

    @Override
    public Void visitAssert(AssertTree tree, Void none) {
        return never(tree, "assert");
    }

    @Override
    public Void visitLambdaExpression(LambdaExpressionTree tree, Void none) {
        return never(tree, "lambda");
    }

    @Override
    public Void visitMemberReference(MemberReferenceTree tree, Void none) {
        return never(tree, "method reference");
    }
}
