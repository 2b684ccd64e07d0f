import com.sun.source.tree.ArrayTypeTree;
import com.sun.source.tree.AssertTree;
import com.sun.source.tree.BinaryTree;
import com.sun.source.tree.ClassTree;
import com.sun.source.tree.CompilationUnitTree;
import com.sun.source.tree.CompoundAssignmentTree;
import com.sun.source.tree.LambdaExpressionTree;
import com.sun.source.tree.LineMap;
import com.sun.source.tree.MemberReferenceTree;
import com.sun.source.tree.MethodInvocationTree;
import com.sun.source.tree.MethodTree;
import com.sun.source.tree.NewClassTree;
import com.sun.source.tree.SynchronizedTree;
import com.sun.source.tree.ThrowTree;
import com.sun.source.tree.Tree;
import com.sun.source.tree.TryTree;
import com.sun.source.tree.VariableTree;
import com.sun.source.tree.WhileLoopTree;
import com.sun.source.util.JavacTask;
import com.sun.source.util.TreePathScanner;
import com.sun.source.util.Trees;
import java.io.File;
import java.util.ArrayList;
import java.util.HashMap;
import java.util.HashSet;
import java.util.LinkedHashMap;
import java.util.List;
import java.util.Map;
import java.util.Set;
import java.util.TreeSet;
import javax.lang.model.element.Element;
import javax.lang.model.element.ElementKind;
import javax.lang.model.element.ExecutableElement;
import javax.lang.model.element.Modifier;
import javax.lang.model.element.TypeElement;
import javax.tools.JavaCompiler;
import javax.tools.StandardJavaFileManager;
import javax.tools.ToolProvider;

/** Those of LANGUAGE.md's rules that a compiler's tree can show, looked at in the program's file (the first argument). */
public final class LanguageTest {
    private static final Set<String> LIBRARY = Set.of("String.length", "String.charAt", "Math.min", "Math.max", "Integer.bitCount");

    private static int wrong = 0;

    public static void main(String[] args) throws Exception {
        JavaCompiler compiler = ToolProvider.getSystemJavaCompiler();
        try (StandardJavaFileManager files = compiler.getStandardFileManager(null, null, null)) {
            JavacTask task = (JavacTask) compiler.getTask(null, files, null, List.of("-proc:none"), null,
                    files.getJavaFileObjects(new File(args[0])));
            CompilationUnitTree unit = task.parse().iterator().next();
            task.analyze();
            if (unit.getPackageName() != null) fault("there is a package line");
            if (!unit.getImports().isEmpty()) fault("there are imports");
            if (unit.getTypeDecls().size() != 1) fault("there is more than one class at the top");
            Looker looker = new Looker(Trees.instance(task), unit);
            looker.scan(unit, null);
            looker.names();
            looker.depths();
            for (int c : unit.getSourceFile().getCharContent(true).chars().toArray()) if (c > 126) fault("a sign " + c);
        }
        System.out.println(wrong == 0 ? "LanguageTest: nothing outside the rules" : "LanguageTest: " + wrong + " faults");
        if (wrong != 0) System.exit(1);
    }

    private static void fault(String what) {
        wrong++;
        System.out.println(what);
    }

    private static final class Looker extends TreePathScanner<Void, Void> {
        private final Trees trees;
        private final CompilationUnitTree unit;
        private final LineMap lines;
        private final Map<ExecutableElement, Set<ExecutableElement>> calls = new LinkedHashMap<>();
        private ExecutableElement within = null;
        private int classes = 0;

        Looker(Trees trees, CompilationUnitTree unit) {
            this.trees = trees;
            this.unit = unit;
            this.lines = unit.getLineMap();
        }

        private Element here() {
            return trees.getElement(getCurrentPath());
        }

        private String at(Tree t) {
            return "line " + lines.getLineNumber(trees.getSourcePositions().getStartPosition(unit, t)) + ": ";
        }

        @Override public Void visitClass(ClassTree t, Void v) {
            classes++;
            TypeElement c = (TypeElement) here();
            boolean outer = c.getNestingKind().toString().equals("TOP_LEVEL");
            if (!outer && !c.getModifiers().contains(Modifier.STATIC)) fault(at(t) + "a class that isn't static");
            if (!outer && c.getSimpleName().length() == 0) fault(at(t) + "a class without a name");
            int fields = 0;
            for (Element e : c.getEnclosedElements()) {
                if (e.getKind() == ElementKind.FIELD && !e.getModifiers().contains(Modifier.STATIC)) fields++;
                if (e.getKind() == ElementKind.STATIC_INIT) fault(at(t) + "a static block");
                boolean told = e.getModifiers().contains(Modifier.PUBLIC);
                if (outer && !told && !e.getModifiers().contains(Modifier.PRIVATE)) fault(at(t) + e + " is open");
                if (!outer && told) fault(at(t) + e + " is public");
            }
            if (fields > 20) fault(at(t) + fields + " fields");
            if (classes > 12) fault(at(t) + classes + " classes");
            return super.visitClass(t, v);
        }

        @Override public Void visitMethod(MethodTree t, Void v) {
            within = (ExecutableElement) here();
            calls.putIfAbsent(within, new HashSet<>());
            if (t.getParameters().size() > 7) fault(at(t) + "more than seven parameters");
            long from = lines.getLineNumber(trees.getSourcePositions().getStartPosition(unit, t));
            long to = lines.getLineNumber(trees.getSourcePositions().getEndPosition(unit, t));
            if (to - from > 60) fault(at(t) + "a long method");
            if (!t.getThrows().isEmpty()) fault(at(t) + "throws");
            super.visitMethod(t, v);
            within = null;
            return null;
        }

        private void called(Element e, Tree t) {
            if (!(e instanceof ExecutableElement m)) return;
            Element owner = m.getEnclosingElement();
            String name = owner.getSimpleName() + "." + m.getSimpleName();
            boolean own = owner.toString().startsWith("SomebodyElseTonight");
            if (!own && m.getKind() == ElementKind.METHOD && !LIBRARY.contains(name)) fault(at(t) + "calls " + name);
            if (own && within != null) calls.get(within).add(m);
        }

        @Override public Void visitMethodInvocation(MethodInvocationTree t, Void v) {
            called(here(), t);
            return super.visitMethodInvocation(t, v);
        }

        @Override public Void visitNewClass(NewClassTree t, Void v) {
            called(here(), t);
            if (t.getClassBody() != null) fault(at(t) + "an anonymous class");
            return super.visitNewClass(t, v);
        }

        @Override public Void visitVariable(VariableTree t, Void v) {
            Element e = here();
            boolean isStatic = e.getKind() == ElementKind.FIELD && e.getModifiers().contains(Modifier.STATIC);
            if (isStatic && !e.getModifiers().contains(Modifier.FINAL)) fault(at(t) + "a static field that changes");
            String type = e.asType().toString();
            if (isStatic && !Set.of("int", "long", "int[]").contains(type)) fault(at(t) + "a static " + type);
            return super.visitVariable(t, v);
        }

        @Override public Void visitBinary(BinaryTree t, Void v) {
            if (t.getKind() == Tree.Kind.PLUS && trees.getTypeMirror(getCurrentPath()).toString().contains("String")) fault(at(t) + "texts joined by +");
            return super.visitBinary(t, v);
        }

        @Override public Void visitCompoundAssignment(CompoundAssignmentTree t, Void v) {
            if (trees.getTypeMirror(getCurrentPath()).toString().contains("String")) fault(at(t) + "texts joined by +=");
            return super.visitCompoundAssignment(t, v);
        }

        @Override public Void visitThrow(ThrowTree t, Void v) {
            fault(at(t) + "throw");
            return super.visitThrow(t, v);
        }

        @Override public Void visitTry(TryTree t, Void v) {
            fault(at(t) + "try");
            return super.visitTry(t, v);
        }

        @Override public Void visitAssert(AssertTree t, Void v) {
            fault(at(t) + "assert");
            return super.visitAssert(t, v);
        }

        @Override public Void visitSynchronized(SynchronizedTree t, Void v) {
            fault(at(t) + "synchronized");
            return super.visitSynchronized(t, v);
        }

        @Override public Void visitLambdaExpression(LambdaExpressionTree t, Void v) {
            fault(at(t) + "a lambda");
            return super.visitLambdaExpression(t, v);
        }

        @Override public Void visitMemberReference(MemberReferenceTree t, Void v) {
            fault(at(t) + "a method reference");
            return super.visitMemberReference(t, v);
        }

        @Override public Void visitWhileLoop(WhileLoopTree t, Void v) {
            if (!t.getCondition().toString().contains("<")) fault(at(t) + "a while without a bound");
            return super.visitWhileLoop(t, v);
        }

        @Override public Void visitArrayType(ArrayTypeTree t, Void v) {
            if (t.getType() instanceof ArrayTypeTree) fault(at(t) + "an array of two dimensions, not looked at yet");
            return super.visitArrayType(t, v);
        }

        /** No private method bears the name of a public one. */
        void names() {
            Set<String> open = new TreeSet<>();
            for (ExecutableElement m : calls.keySet()) if (m.getModifiers().contains(Modifier.PUBLIC)) open.add(m.getSimpleName().toString());
            for (ExecutableElement m : calls.keySet()) {
                boolean isOpen = m.getModifiers().contains(Modifier.PUBLIC);
                if (!isOpen && m.getKind() == ElementKind.METHOD && open.contains(m.getSimpleName().toString())) fault(m + " is named as a public one");
            }
        }

        /** Calls go eight deep at most; those that are recursion (the reader's) are left out of the count. */
        void depths() {
            int deepest = 0;
            Map<ExecutableElement, Integer> depth = new HashMap<>();
            for (ExecutableElement m : calls.keySet()) {
                if (!m.getModifiers().contains(Modifier.PUBLIC)) continue;
                int d = depth(m, depth, new ArrayList<>());
                if (d > 8) fault(m + " goes " + d + " deep");
                deepest = Math.max(deepest, d);
            }
            System.out.println(classes + " classes, calls go " + deepest + " deep");
        }

        private int depth(ExecutableElement m, Map<ExecutableElement, Integer> known, List<ExecutableElement> open) {
            if (open.contains(m)) {
                for (ExecutableElement r : open.subList(open.indexOf(m), open.size())) {
                    boolean reads = r.getEnclosingElement().getSimpleName().contentEquals("Reader");
                    if (!reads || !r.getModifiers().contains(Modifier.PRIVATE)) fault(r + " is recursion");
                }
                return 0;
            }
            if (known.containsKey(m)) return known.get(m);
            open.add(m);
            int deepest = 0;
            for (ExecutableElement c : calls.getOrDefault(m, Set.of())) {
                boolean grammar = Set.of("either", "both", "negation", "sum", "product", "one").contains(c.getSimpleName().toString());
                int d = depth(c, known, open);
                deepest = Math.max(deepest, grammar ? 1 : d);
            }
            open.remove(m);
            known.put(m, deepest + 1);
            return deepest + 1;
        }
    }
}
