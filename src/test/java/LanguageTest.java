import com.sun.source.tree.AssertTree;
import com.sun.source.tree.BinaryTree;
import com.sun.source.tree.ClassTree;
import com.sun.source.tree.CompilationUnitTree;
import com.sun.source.tree.LambdaExpressionTree;
import com.sun.source.tree.MemberReferenceTree;
import com.sun.source.tree.MethodInvocationTree;
import com.sun.source.tree.MethodTree;
import com.sun.source.tree.NewClassTree;
import com.sun.source.tree.SynchronizedTree;
import com.sun.source.tree.ThrowTree;
import com.sun.source.tree.Tree;
import com.sun.source.tree.TryTree;
import com.sun.source.tree.VariableTree;
import com.sun.source.util.JavacTask;
import com.sun.source.util.SourcePositions;
import com.sun.source.util.TreePath;
import com.sun.source.util.TreePathScanner;
import com.sun.source.util.Trees;
import java.io.File;
import java.io.IOException;
import java.util.List;
import java.util.Map;
import java.util.Set;
import java.util.TreeMap;
import java.util.TreeSet;
import javax.lang.model.element.Element;
import javax.lang.model.element.Modifier;
import javax.tools.JavaCompiler;
import javax.tools.StandardJavaFileManager;
import javax.tools.ToolProvider;

/** Those of LANGUAGE.md's rules that the source shows: a landing outside them is sent back. Run from the project's root. */
public final class LanguageTest extends TreePathScanner<Void, Void> {
    private static final Due D = new Due("LanguageTest");
    private static final String SOURCE = "src/main/java/SaddleHouse.java";
    private static final Set<String> LIBRARIES = Set.of("java.lang.Math", "java.lang.Integer", "java.lang.Long",
        "java.lang.String", "java.lang.StringBuilder", "java.util.ArrayList", "java.util.List", "java.util.Arrays",
        "java.lang.System");
    private static final Set<String> TYPES = Set.of("int", "long", "boolean", "short", "byte", "char", "double", "float",
        "String", "StringBuilder", "Integer");
    private static final Set<String> NOT_OWN = Set.of("equals", "hashCode", "toString", "finalize", "clone");

    private final CompilationUnitTree unit;
    private final Trees trees;
    private final SourcePositions positions;
    private final Set<String> ownClasses = new TreeSet<>();
    private final Set<String> faceCalls = new TreeSet<>();
    private final Map<String, Set<String>> calls = new TreeMap<>();
    private String within = "";

    private LanguageTest(CompilationUnitTree unit, Trees trees) {
        this.unit = unit;
        this.trees = trees;
        this.positions = trees.getSourcePositions();
    }

    public static void main(String[] args) throws IOException {
        JavaCompiler compiler = ToolProvider.getSystemJavaCompiler();
        try (StandardJavaFileManager files = compiler.getStandardFileManager(null, null, null)) {
            JavacTask task = (JavacTask) compiler.getTask(null, files, null, List.of("-proc:none"), null,
                files.getJavaFileObjects(new File(SOURCE)));
            CompilationUnitTree unit = task.parse().iterator().next();
            task.analyze();
            LanguageTest test = new LanguageTest(unit, Trees.instance(task));
            test.lookAtAll();
        }
        D.end();
    }

    private static void holds(String what, boolean whether) {
        D.due(what, whether ? 1 : 0, 1);
    }

    private void lookAtAll() {
        holds("no package line and no import", unit.getPackageName() == null && unit.getImports().isEmpty());
        holds("one class in the file", unit.getTypeDecls().size() == 1);
        ClassTree face = (ClassTree) unit.getTypeDecls().get(0);
        nameAll(face);
        scan(unit, null);
        holds("some twelve classes at most", ownClasses.size() <= 12);
        for (String call : calls.keySet()) {
            holds(call + " goes at most eight deep, and not to itself", depth(call, 1) <= 8);
        }
    }

    private void nameAll(ClassTree face) {
        ownClasses.add(face.getSimpleName().toString());
        for (Tree member : face.getMembers()) {
            if (member instanceof ClassTree own) {
                ownClasses.add(own.getSimpleName().toString());
            } else if (member instanceof MethodTree call && call.getModifiers().getFlags().contains(Modifier.PUBLIC)) {
                faceCalls.add(call.getName().toString());
            }
        }
    }

    /** How many calls stand open at once from this one on; a call that comes back to itself is told by its depth. */
    private int depth(String call, int open) {
        int deepest = open;
        if (open > 20) {
            return open;
        }
        for (String next : calls.getOrDefault(call, Set.of())) {
            deepest = Math.max(deepest, depth(next, open + 1));
        }
        return deepest;
    }

    private long line(Tree tree, boolean last) {
        long at = last ? positions.getEndPosition(unit, tree) : positions.getStartPosition(unit, tree);
        return unit.getLineMap().getLineNumber(at);
    }

    private void never(String what, Tree tree) {
        holds("line " + line(tree, false) + ": " + what, false);
    }

    @Override
    public Void visitClass(ClassTree own, Void none) {
        String name = own.getSimpleName().toString();
        holds("line " + line(own, false) + ": a class that is told at the top of the face", ownClasses.contains(name));
        int fields = 0;
        for (Tree member : own.getMembers()) {
            if (member instanceof VariableTree field && !field.getModifiers().getFlags().contains(Modifier.STATIC)) {
                fields++;
                holds(name + "." + field.getName() + " is private",
                    field.getModifiers().getFlags().contains(Modifier.PRIVATE));
            } else if (member instanceof VariableTree constant) {
                holds(name + "." + constant.getName() + " is final",
                    constant.getModifiers().getFlags().contains(Modifier.FINAL));
            }
        }
        holds(name + " has some twenty fields at most", fields <= 20);
        return super.visitClass(own, none);
    }

    @Override
    public Void visitMethod(MethodTree method, Void none) {
        Element element = trees.getElement(getCurrentPath());
        String outer = within;
        within = element.getEnclosingElement().getSimpleName() + "." + element;
        calls.computeIfAbsent(within, key -> new TreeSet<>());
        String name = method.getName().toString();
        boolean isPublic = method.getModifiers().getFlags().contains(Modifier.PUBLIC);
        holds(within + " is not of java.lang.Object", !NOT_OWN.contains(name));
        holds(within + " has a name of its own", isPublic || name.equals("<init>") || !faceCalls.contains(name));
        holds(within + " takes at most seven", method.getParameters().size() <= 7);
        holds(within + " is short", line(method, true) - line(method, false) < 60);
        holds(within + " names no exception", method.getThrows().isEmpty());
        super.visitMethod(method, none);
        within = outer;
        return null;
    }

    @Override
    public Void visitVariable(VariableTree variable, Void none) {
        String type = variable.getType() == null ? "var" : variable.getType().toString();
        String bare = type.replace("[]", "").replaceAll("<.*", "");
        boolean isList = bare.equals("ArrayList") || bare.equals("List");
        holds("line " + line(variable, false) + ": a type as told, " + type,
            isList || TYPES.contains(bare) || ownClasses.contains(bare));
        return super.visitVariable(variable, none);
    }

    @Override
    public Void visitMethodInvocation(MethodInvocationTree call, Void none) {
        noteCall(trees.getElement(getCurrentPath()), call);
        return super.visitMethodInvocation(call, none);
    }

    @Override
    public Void visitNewClass(NewClassTree made, Void none) {
        noteCall(trees.getElement(getCurrentPath()), made);
        if (made.getClassBody() != null) {
            never("an anonymous class", made);
        }
        return super.visitNewClass(made, none);
    }

    private void noteCall(Element called, Tree tree) {
        String owner = called.getEnclosingElement().toString();
        String name = called.getSimpleName().toString();
        if (owner.equals("SaddleHouse") || owner.startsWith("SaddleHouse.")) {
            calls.computeIfAbsent(within, key -> new TreeSet<>())
                .add(called.getEnclosingElement().getSimpleName() + "." + called);
        } else if (!owner.equals("java.lang.Object") || !name.equals("<init>")) {
            holds("line " + line(tree, false) + ": a library as told, " + owner + "." + name,
                LIBRARIES.contains(owner) && !name.endsWith("Exact"));
        }
    }

    @Override
    public Void visitBinary(BinaryTree binary, Void none) {
        if (binary.getKind() == Tree.Kind.PLUS) {
            String type = trees.getTypeMirror(new TreePath(getCurrentPath(), binary)).toString();
            holds("line " + line(binary, false) + ": no texts joined by +", !type.equals("java.lang.String"));
        }
        return super.visitBinary(binary, none);
    }

    @Override
    public Void visitThrow(ThrowTree tree, Void none) {
        never("throw", tree);
        return super.visitThrow(tree, none);
    }

    @Override
    public Void visitTry(TryTree tree, Void none) {
        never("try", tree);
        return super.visitTry(tree, none);
    }

    @Override
    public Void visitSynchronized(SynchronizedTree tree, Void none) {
        never("synchronized", tree);
        return super.visitSynchronized(tree, none);
    }

    @Override
    public Void visitAssert(AssertTree tree, Void none) {
        never("assert", tree);
        return super.visitAssert(tree, none);
    }

    @Override
    public Void visitLambdaExpression(LambdaExpressionTree tree, Void none) {
        never("a lambda", tree);
        return super.visitLambdaExpression(tree, none);
    }

    @Override
    public Void visitMemberReference(MemberReferenceTree tree, Void none) {
        never("a method reference", tree);
        return super.visitMemberReference(tree, none);
    }
}
