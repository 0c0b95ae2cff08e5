import com.sun.source.tree.BinaryTree;
import com.sun.source.tree.ClassTree;
import com.sun.source.tree.CompilationUnitTree;
import com.sun.source.tree.ImportTree;
import com.sun.source.tree.LambdaExpressionTree;
import com.sun.source.tree.MemberReferenceTree;
import com.sun.source.tree.MemberSelectTree;
import com.sun.source.tree.MethodInvocationTree;
import com.sun.source.tree.MethodTree;
import com.sun.source.tree.NewClassTree;
import com.sun.source.tree.SynchronizedTree;
import com.sun.source.tree.ThrowTree;
import com.sun.source.tree.Tree;
import com.sun.source.tree.TryTree;
import com.sun.source.tree.VariableTree;
import com.sun.source.util.JavacTask;
import com.sun.source.util.TreePathScanner;
import com.sun.source.util.Trees;
import java.nio.file.Path;
import java.util.HashMap;
import java.util.LinkedHashSet;
import java.util.List;
import java.util.Map;
import java.util.Set;
import java.util.TreeSet;
import javax.lang.model.element.Element;
import javax.lang.model.element.ElementKind;
import javax.lang.model.element.ExecutableElement;
import javax.lang.model.element.Modifier;
import javax.lang.model.type.TypeKind;
import javax.tools.JavaCompiler;
import javax.tools.StandardJavaFileManager;
import javax.tools.ToolProvider;

/** What of ../shared/LANGUAGE.md can be counted in the source: sizes, depth of calls, the library, no throw amiss. */
final class RulesTest extends TreePathScanner<Void, Void> {
    private static final int MOST_LINES = 60;
    private static final int MOST_PARAMETERS = 7;
    private static final int MOST_CLASSES = 12;
    private static final int MOST_FIELDS = 20;
    private static final int MOST_DEPTH = 8;
    /** The methods that call themselves: the last argument is the level, which goes down to 0, or the depth. */
    private static final Set<String> RECURSION = Set.of("Patchwright.Matcher.goThrough(int,int,int,int)",
            "Patchwright.Lattice.sideOf(Patchwright.Text,int,int,long,int)",
            "Patchwright.Lattice.out(int,int,long,int)", "Patchwright.Lattice.goThrough(int,int,long,long,int)",
            "Patchwright.Compare.weave(int,Patchwright.Text,Patchwright.Text,int)",
            "Patchwright.TextMerge.joinUnits(long,long,int)");
    private static final Set<String> LIBRARY = Set.of("java.util.Arrays.copyOf", "java.util.Arrays.copyOfRange",
            "java.util.Arrays.fill", "java.lang.System.arraycopy", "java.lang.Long.bitCount", "java.lang.Math.max",
            "java.lang.Math.min", "java.lang.Long.highestOneBit", "java.lang.Object.<init>");
    private static final Set<String> EXCEPTIONS = Set.of("IllegalStateException", "IllegalArgumentException",
            "IndexOutOfBoundsException", "ArithmeticException", "UnsupportedOperationException",
            "NoSuchElementException", "RuntimeException");

    private final Trees trees;
    private CompilationUnitTree unit;
    private final Map<String, Set<String>> calls = new HashMap<>();
    private String method = "";
    private boolean inConstructor;
    private int classes;

    private RulesTest(Trees trees) {
        this.trees = trees;
    }

    public static void main(String[] args) throws Exception {
        JavaCompiler compiler = ToolProvider.getSystemJavaCompiler();
        StandardJavaFileManager files = compiler.getStandardFileManager(null, null, null);
        JavacTask task = (JavacTask) compiler.getTask(null, files, null, List.of("-proc:none"), null,
                files.getJavaFileObjects(Path.of("src/main/java/Patchwright.java")));
        Iterable<? extends CompilationUnitTree> units = task.parse();
        task.analyze();
        RulesTest rules = new RulesTest(Trees.instance(task));
        for (CompilationUnitTree unit : units) {
            rules.unit = unit;
            rules.scan(unit, null);
        }
        Bench.due("rule 11: classes", rules.classes <= MOST_CLASSES, true);
        for (String name : rules.calls.keySet()) {
            int depth = rules.depth(name, new LinkedHashSet<>());
            Bench.due("rule 11: depth of calls from " + name + ": " + depth, depth <= MOST_DEPTH, true);
            if (depth > MOST_DEPTH) {
                System.out.println("  " + rules.deepest(name, new LinkedHashSet<>()));
            }
        }
        Bench.close("RulesTest");
    }

    private int depth(String name, Set<String> open) {
        open.add(name);
        int deepest = 0;
        for (String called : calls.getOrDefault(name, Set.of())) {
            if (open.contains(called)) {
                boolean carried = called.equals(name) && RECURSION.contains(name);
                Bench.due("rule 8: recursion from " + name + " to " + called, carried, true);
            } else {
                deepest = Math.max(deepest, depth(called, open));
            }
        }
        open.remove(name);
        return deepest + 1;
    }

    /** The longest way of calls, told for whoever has to shorten it. */
    private List<String> deepest(String name, Set<String> open) {
        open.add(name);
        List<String> longest = List.of();
        for (String called : calls.getOrDefault(name, Set.of())) {
            List<String> way = open.contains(called) ? List.of() : deepest(called, open);
            longest = way.size() > longest.size() ? way : longest;
        }
        open.remove(name);
        List<String> all = new java.util.ArrayList<>(List.of(name));
        all.addAll(longest);
        return all;
    }

    private String at(Tree tree) {
        return " at line " + lineOf(trees.getSourcePositions().getStartPosition(unit, tree));
    }

    private long lineOf(long position) {
        return unit.getLineMap().getLineNumber(position);
    }

    @Override
    public Void visitImport(ImportTree tree, Void none) {
        String name = tree.getQualifiedIdentifier().toString();
        Bench.due("rule 4: import " + name, Set.of("java.util.Arrays", "java.util.NoSuchElementException").contains(name),
                true);
        return super.visitImport(tree, none);
    }

    @Override
    public Void visitClass(ClassTree tree, Void none) {
        classes++;
        int fields = 0;
        for (Tree member : tree.getMembers()) {
            if (member instanceof VariableTree field) {
                Set<Modifier> modifiers = field.getModifiers().getFlags();
                boolean constant = modifiers.contains(Modifier.STATIC);
                Bench.due("rule 5: static fields are final: " + field.getName(),
                        !constant || modifiers.contains(Modifier.FINAL), true);
                fields += constant ? 0 : 1;
            }
            Bench.due("rule 5: no static block" + at(member), member.getKind() == Tree.Kind.BLOCK, false);
        }
        Bench.due("rule 11: fields of " + tree.getSimpleName() + ": " + fields, fields <= MOST_FIELDS, true);
        return super.visitClass(tree, none);
    }

    @Override
    public Void visitMethod(MethodTree tree, Void none) {
        String before = method;
        boolean beforeConstructor = inConstructor;
        Element element = trees.getElement(getCurrentPath());
        method = nameOf((ExecutableElement) element);
        inConstructor = element.getKind() == ElementKind.CONSTRUCTOR;
        calls.putIfAbsent(method, new TreeSet<>());
        long first = lineOf(trees.getSourcePositions().getStartPosition(unit, tree));
        long last = lineOf(trees.getSourcePositions().getEndPosition(unit, tree));
        Bench.due("rule 11: length of " + method, last - first < MOST_LINES, true);
        Bench.due("rule 11: parameters of " + method, tree.getParameters().size() <= MOST_PARAMETERS, true);
        super.visitMethod(tree, none);
        method = before;
        inConstructor = beforeConstructor;
        return null;
    }

    private static String nameOf(ExecutableElement element) {
        return element.getEnclosingElement().toString() + "." + element;
    }

    private void called(ExecutableElement element, Tree tree) {
        String owner = element.getEnclosingElement().toString();
        String name = owner + "." + element.getSimpleName();
        if (owner.startsWith("Patchwright")) {
            calls.computeIfAbsent(method, key -> new TreeSet<>()).add(nameOf(element));
        } else {
            boolean exception = EXCEPTIONS.contains(owner.substring(owner.lastIndexOf('.') + 1));
            Bench.due("rule 4: " + name + at(tree), LIBRARY.contains(name) || exception, true);
        }
    }

    @Override
    public Void visitMethodInvocation(MethodInvocationTree tree, Void none) {
        if (trees.getElement(getCurrentPath()) instanceof ExecutableElement element) {
            called(element, tree);
        }
        return super.visitMethodInvocation(tree, none);
    }

    @Override
    public Void visitMemberSelect(MemberSelectTree tree, Void none) {
        Element element = trees.getElement(getCurrentPath());
        boolean field = element != null && element.getKind() == ElementKind.FIELD;
        boolean foreign = field && element.getEnclosingElement().toString().startsWith("java.");
        Bench.due("rule 4: " + tree + at(tree), foreign, false);
        return super.visitMemberSelect(tree, none);
    }

    @Override
    public Void visitNewClass(NewClassTree tree, Void none) {
        if (trees.getElement(getCurrentPath()) instanceof ExecutableElement element) {
            called(element, tree);
        }
        return super.visitNewClass(tree, none);
    }

    @Override
    public Void visitThrow(ThrowTree tree, Void none) {
        boolean plain = tree.getExpression() instanceof NewClassTree made
                && EXCEPTIONS.contains(made.getIdentifier().toString());
        Bench.due("rule 6: throw" + at(tree), plain, true);
        Bench.due("rule 6: throw in a constructor" + at(tree), inConstructor, false);
        return super.visitThrow(tree, none);
    }

    @Override
    public Void visitTry(TryTree tree, Void none) {
        Bench.due("rule 6: no try is needed here" + at(tree), true, false);
        return super.visitTry(tree, none);
    }

    @Override
    public Void visitLambdaExpression(LambdaExpressionTree tree, Void none) {
        Bench.due("rule 2: lambda" + at(tree), true, false);
        return super.visitLambdaExpression(tree, none);
    }

    @Override
    public Void visitMemberReference(MemberReferenceTree tree, Void none) {
        Bench.due("rule 2: method reference" + at(tree), true, false);
        return super.visitMemberReference(tree, none);
    }

    @Override
    public Void visitSynchronized(SynchronizedTree tree, Void none) {
        Bench.due("rule 6: synchronized" + at(tree), true, false);
        return super.visitSynchronized(tree, none);
    }

    @Override
    public Void visitBinary(BinaryTree tree, Void none) {
        boolean text = tree.getKind() == Tree.Kind.PLUS
                && trees.getTypeMirror(getCurrentPath()).getKind() == TypeKind.DECLARED;
        Bench.due("rule 10: texts joined by +" + at(tree), text, false);
        return super.visitBinary(tree, none);
    }
}
