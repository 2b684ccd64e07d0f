import com.sun.source.tree.AssertTree;
import com.sun.source.tree.BinaryTree;
import com.sun.source.tree.ClassTree;
import com.sun.source.tree.CompilationUnitTree;
import com.sun.source.tree.CompoundAssignmentTree;
import com.sun.source.tree.DoWhileLoopTree;
import com.sun.source.tree.ExpressionTree;
import com.sun.source.tree.ForLoopTree;
import com.sun.source.tree.LambdaExpressionTree;
import com.sun.source.tree.LineMap;
import com.sun.source.tree.MemberReferenceTree;
import com.sun.source.tree.MethodInvocationTree;
import com.sun.source.tree.MethodTree;
import com.sun.source.tree.NewClassTree;
import com.sun.source.tree.SynchronizedTree;
import com.sun.source.tree.ThrowTree;
import com.sun.source.tree.Tree;
import com.sun.source.tree.TryTree;
import com.sun.source.tree.VariableTree;
import com.sun.source.tree.WhileLoopTree;
import com.sun.source.util.JavacTask;
import com.sun.source.util.TreePathScanner;
import com.sun.source.util.Trees;
import java.io.File;
import java.lang.reflect.Method;
import java.util.ArrayList;
import java.util.HashMap;
import java.util.LinkedHashMap;
import java.util.LinkedHashSet;
import java.util.List;
import java.util.Map;
import java.util.Set;
import java.util.TreeSet;
import javax.lang.model.element.Element;
import javax.lang.model.element.ElementKind;
import javax.lang.model.element.ExecutableElement;
import javax.lang.model.element.Modifier;
import javax.lang.model.element.TypeElement;
import javax.tools.JavaCompiler;
import javax.tools.StandardJavaFileManager;
import javax.tools.ToolProvider;

/** Those of LANGUAGE.md's rules 1 to 13 that a compiler's tree can show, looked at in the program's file (the first argument). */
public final class LanguageTest {
    /** 'The public face' of the document. */
    private static final Set<String> FACE = Set.of("int count(int)", "int feed(int,int,int,int,int,int)", "int text()", "int force(int)",
        "int asks(int,int,int)", "int guest(int,int)", "int told(int,int)", "int pair(int,int)", "int set(int,int,int)",
        "int does(int,int)", "int would(int,int)", "int known(int)", "int evening(int)", "int live()", "int may(int,int)",
        "int fits(int,int)", "int next(int,int)", "int fewest()", "int best(int,int)", "int chain(int,int)", "int ring(int)",
        "int asIf(int,int,int)", "int learns(int,int)", "int judge(int,int)", "int kinds(int,int,int)", "int manners(int,int,int)",
        "int whose(int)", "int laws(int,int)", "int film(int,int)", "int drawn(int,int)", "int lots(int)", "long odds(int,int,int)",
        "long chance(int,int)", "int image()", "int back()", "int sheet(int,int,int)", "int cell(int,int,int)",
        "int copy(int,int,int,int,int)", "int guestsBy(int,int,int,int)", "int taken(int,int)");
    /** Rule 4; of Integer, Long and Math all static functions over int and long but those that end in Exact. */
    private static final Set<String> LIBRARY = Set.of("String.length", "String.charAt", "String.isEmpty", "String.equals", "String.indexOf",
        "String.substring", "String.toCharArray", "StringBuilder.append", "StringBuilder.charAt", "StringBuilder.setCharAt",
        "StringBuilder.setLength", "StringBuilder.deleteCharAt", "StringBuilder.reverse", "StringBuilder.length", "StringBuilder.toString",
        "ArrayList.add", "ArrayList.get", "ArrayList.set", "ArrayList.remove", "ArrayList.size", "ArrayList.isEmpty", "ArrayList.clear",
        "List.add", "List.get", "List.set", "List.remove", "List.size", "List.isEmpty", "List.clear", "List.of", "Iterator.hasNext",
        "Iterator.next", "Iterable.iterator", "Comparable.compareTo", "System.arraycopy", "Arrays.copyOf", "Arrays.copyOfRange",
        "Arrays.fill", "Object.clone", "Array.clone");
    private static final Set<String> FUNCTIONS = Set.of("Integer", "Long", "Math");
    private static final Set<String> MADE = Set.of("String", "StringBuilder", "ArrayList");
    private static final String OUTER = "SomebodyElseTonight";

    private static int wrong = 0;

    public static void main(String[] args) throws Exception {
        face();
        JavaCompiler compiler = ToolProvider.getSystemJavaCompiler();
        try (StandardJavaFileManager files = compiler.getStandardFileManager(null, null, null)) {
            JavacTask task = (JavacTask) compiler.getTask(null, files, null, List.of("-proc:none"), null,
                    files.getJavaFileObjects(new File(args[0])));
            CompilationUnitTree unit = task.parse().iterator().next();
            task.analyze();
            if (unit.getPackageName() != null) fault("there is a package line");
            if (unit.getTypeDecls().size() != 1) fault("there is more than one class at the top");
            Looker looker = new Looker(Trees.instance(task), unit);
            looker.scan(unit, null);
            looker.names();
            looker.depths();
        }
        System.out.println(wrong == 0 ? "LanguageTest: nothing outside the rules" : "LanguageTest: " + wrong + " faults");
        if (wrong != 0) System.exit(1);
    }

    private static void fault(String what) {
        wrong++;
        System.out.println(what);
    }

    /** Rule 1: the constants, constructor and methods of the document, and no others. */
    private static void face() {
        Set<String> left = new TreeSet<>(FACE);
        for (Method m : SomebodyElseTonight.class.getDeclaredMethods()) {
            if ((m.getModifiers() & 7) == 2 || m.isSynthetic()) continue;
            StringBuilder told = new StringBuilder(m.getReturnType() + " " + m.getName() + "(");
            for (int i = 0; i < m.getParameterCount(); i++) told.append(i > 0 ? "," : "").append(m.getParameterTypes()[i]);
            if (!left.remove(told + ")")) fault(told + ") is not of the face");
        }
        if (!left.isEmpty()) fault("of the face there are not " + left);
        if (SomebodyElseTonight.class.getConstructors().length != 1) fault("there is not one constructor");
        if (SomebodyElseTonight.class.getFields().length != 5) fault("there are not five constants");
    }

    private static final class Looker extends TreePathScanner<Void, Void> {
        private final Trees trees;
        private final CompilationUnitTree unit;
        private final LineMap lines;
        private final Map<ExecutableElement, Set<ExecutableElement>> calls = new LinkedHashMap<>();
        private ExecutableElement within = null;
        private int classes = 0;

        Looker(Trees trees, CompilationUnitTree unit) {
            this.trees = trees;
            this.unit = unit;
            this.lines = unit.getLineMap();
        }

        private Element here() {
            return trees.getElement(getCurrentPath());
        }

        private void faultAt(Tree t, String what) {
            fault("line " + lines.getLineNumber(trees.getSourcePositions().getStartPosition(unit, t)) + ": " + what);
        }

        /** Rules 1, 2, 5 and 11: classes. */
        @Override public Void visitClass(ClassTree t, Void v) {
            classes++;
            TypeElement c = (TypeElement) here();
            boolean outer = c.getNestingKind().toString().equals("TOP_LEVEL");
            Set<Modifier> how = c.getModifiers();
            if (outer && !(how.contains(Modifier.PUBLIC) && how.contains(Modifier.FINAL))) faultAt(t, "not public and final");
            if (!outer && !how.contains(Modifier.STATIC)) faultAt(t, "a class that isn't static");
            if (!outer && (how.contains(Modifier.PUBLIC) || how.contains(Modifier.PROTECTED))) faultAt(t, "an open class");
            if (!c.getNestingKind().toString().matches("TOP_LEVEL|MEMBER")) faultAt(t, "a local or anonymous class");
            int fields = 0;
            for (Element e : c.getEnclosedElements()) {
                boolean isStatic = e.getModifiers().contains(Modifier.STATIC);
                if (e.getKind() == ElementKind.FIELD && !isStatic) fields++;
                if (e.getKind() == ElementKind.STATIC_INIT) faultAt(t, "a static block");
                boolean isPrivate = e.getModifiers().contains(Modifier.PRIVATE);
                boolean isOpen = e.getModifiers().contains(Modifier.PUBLIC);
                if (outer && !isOpen && !isPrivate && !e.getKind().isClass() && !e.getKind().isInterface()) faultAt(t, e + " can be seen");
            }
            if (fields > 22) faultAt(t, fields + " fields");
            if (classes > 13) faultAt(t, classes + " classes");
            return super.visitClass(t, v);
        }

        /** Rules 6 and 11: methods. */
        @Override public Void visitMethod(MethodTree t, Void v) {
            ExecutableElement outside = within;
            within = (ExecutableElement) here();
            calls.putIfAbsent(within, new LinkedHashSet<>());
            if (t.getParameters().size() > 7) faultAt(t, "more than seven parameters");
            long from = lines.getLineNumber(trees.getSourcePositions().getStartPosition(unit, t));
            long to = lines.getLineNumber(trees.getSourcePositions().getEndPosition(unit, t));
            if (to - from > 70) faultAt(t, "a long method");
            if (!t.getThrows().isEmpty()) faultAt(t, "throws");
            if (Set.of("equals", "hashCode", "toString").contains(t.getName().toString())) faultAt(t, t.getName() + " of one's own");
            super.visitMethod(t, v);
            within = outside;
            return null;
        }

        private void called(Element e, Tree t) {
            if (!(e instanceof ExecutableElement m)) return;
            Element owner = m.getEnclosingElement();
            String type = owner.getSimpleName().toString();
            String name = type + "." + m.getSimpleName();
            boolean own = owner.toString().equals(OUTER) || owner.toString().startsWith(OUTER + ".");
            if (own && within != null) calls.get(within).add(m);
            if (own) return;
            boolean function = FUNCTIONS.contains(type) && m.getModifiers().contains(Modifier.STATIC) && !name.endsWith("Exact");
            boolean known = m.getKind() == ElementKind.CONSTRUCTOR ? MADE.contains(type) || type.equals("Object") || type.equals("Enum")
                : LIBRARY.contains(name) || function;
            if (!known) faultAt(t, "calls " + name);
        }

        @Override public Void visitMethodInvocation(MethodInvocationTree t, Void v) {
            called(here(), t);
            return super.visitMethodInvocation(t, v);
        }

        @Override public Void visitNewClass(NewClassTree t, Void v) {
            called(here(), t);
            if (t.getClassBody() != null) faultAt(t, "an anonymous class");
            return super.visitNewClass(t, v);
        }

        /** Rules 3 and 5: what a variable, a field may be. */
        @Override public Void visitVariable(VariableTree t, Void v) {
            Element e = here();
            String type = e.asType().toString();
            String bare = type.replace("[]", "");
            boolean number = Set.of("int", "long", "short", "byte", "char", "boolean", "double", "float").contains(bare);
            boolean own = bare.startsWith(OUTER) || e.asType().getKind().toString().equals("TYPEVAR");
            boolean library = bare.matches("java\\.lang\\.(String|StringBuilder|Integer)|java\\.(util|lang)\\.(ArrayList|List|Iterator|Iterable|Comparable)<.*>");
            if (!number && !own && !library) faultAt(t, "a " + type);
            if (type.endsWith("[][]") && !number || type.endsWith("[][][]")) faultAt(t, "rows of rows of " + bare);
            if (e.getKind() != ElementKind.FIELD || !e.getModifiers().contains(Modifier.STATIC)) return super.visitVariable(t, v);
            if (!e.getModifiers().contains(Modifier.FINAL)) faultAt(t, "a static field that changes");
            boolean constant = type.matches("int|long|boolean|char|java\\.lang\\.String|(int|long|char|byte)\\[\\]");
            if (!constant && !own) faultAt(t, "a static " + type);
            return super.visitVariable(t, v);
        }

        /** Rule 10: texts are joined by StringBuilder. */
        @Override public Void visitBinary(BinaryTree t, Void v) {
            if (t.getKind() == Tree.Kind.PLUS && trees.getTypeMirror(getCurrentPath()).toString().contains("String")) faultAt(t, "texts joined by +");
            return super.visitBinary(t, v);
        }

        @Override public Void visitCompoundAssignment(CompoundAssignmentTree t, Void v) {
            if (trees.getTypeMirror(getCurrentPath()).toString().contains("String")) faultAt(t, "texts joined by +=");
            return super.visitCompoundAssignment(t, v);
        }

        @Override public Void visitThrow(ThrowTree t, Void v) {
            faultAt(t, "throw");
            return super.visitThrow(t, v);
        }

        @Override public Void visitTry(TryTree t, Void v) {
            faultAt(t, "try");
            return super.visitTry(t, v);
        }

        @Override public Void visitAssert(AssertTree t, Void v) {
            faultAt(t, "assert");
            return super.visitAssert(t, v);
        }

        @Override public Void visitSynchronized(SynchronizedTree t, Void v) {
            faultAt(t, "synchronized");
            return super.visitSynchronized(t, v);
        }

        @Override public Void visitLambdaExpression(LambdaExpressionTree t, Void v) {
            faultAt(t, "a lambda");
            return super.visitLambdaExpression(t, v);
        }

        @Override public Void visitMemberReference(MemberReferenceTree t, Void v) {
            faultAt(t, "a method reference");
            return super.visitMemberReference(t, v);
        }

        /** Rule 9: every loop has an end that can be seen; one that has no condition has none. */
        private void loop(Tree t, ExpressionTree condition) {
            if (condition == null || condition.toString().replaceAll("[()]", "").equals("true")) faultAt(t, "a loop without an end");
        }

        @Override public Void visitWhileLoop(WhileLoopTree t, Void v) {
            loop(t, t.getCondition());
            return super.visitWhileLoop(t, v);
        }

        @Override public Void visitDoWhileLoop(DoWhileLoopTree t, Void v) {
            loop(t, t.getCondition());
            return super.visitDoWhileLoop(t, v);
        }

        @Override public Void visitForLoop(ForLoopTree t, Void v) {
            loop(t, t.getCondition());
            return super.visitForLoop(t, v);
        }

        /** Rule 1: no private method bears the name of a public one. */
        void names() {
            Set<String> open = new TreeSet<>();
            for (String told : FACE) open.add(told.substring(told.indexOf(' ') + 1, told.indexOf('(')));
            for (ExecutableElement m : calls.keySet()) {
                boolean isPrivate = m.getModifiers().contains(Modifier.PRIVATE);
                if (isPrivate && open.contains(m.getSimpleName().toString())) fault(m + " is named as a public one");
            }
        }

        /** Rule 11: calls that are no recursion go at most eight deep; rule 8: recursion is private, or an interface's. */
        void depths() {
            Map<ExecutableElement, Set<ExecutableElement>> reached = new HashMap<>();
            for (ExecutableElement m : calls.keySet()) reached.put(m, reachedFrom(m));
            int deepest = 0;
            for (ExecutableElement m : calls.keySet()) {
                boolean again = reached.get(m).contains(m);
                boolean mayBe = m.getModifiers().contains(Modifier.PRIVATE) || !m.getEnclosingElement().toString().equals(OUTER);
                if (again && !mayBe) fault(m + " is recursion");
                if (!m.getModifiers().contains(Modifier.PUBLIC)) continue;
                int d = depth(m, reached, new HashMap<>(), new ArrayList<>());
                if (d > 8) fault(m + " goes " + d + " deep");
                deepest = Math.max(deepest, d);
            }
            System.out.println(classes + " classes, calls go " + deepest + " deep");
        }

        private Set<ExecutableElement> reachedFrom(ExecutableElement m) {
            Set<ExecutableElement> all = new LinkedHashSet<>(calls.getOrDefault(m, Set.of()));
            List<ExecutableElement> open = new ArrayList<>(all);
            while (!open.isEmpty()) {
                for (ExecutableElement c : calls.getOrDefault(open.remove(open.size() - 1), Set.of())) {
                    if (all.add(c)) open.add(c);
                }
            }
            return all;
        }

        /** How many calls that are no recursion stand open at once at most; a call within a recursion counts none. */
        private int depth(ExecutableElement m, Map<ExecutableElement, Set<ExecutableElement>> reached,
                Map<ExecutableElement, Integer> known, List<ExecutableElement> open) {
            if (known.containsKey(m)) return known.get(m);
            if (open.contains(m)) return 0;
            open.add(m);
            int deepest = 0;
            for (ExecutableElement c : calls.getOrDefault(m, Set.of())) {
                boolean again = reached.getOrDefault(c, Set.of()).contains(m);
                deepest = Math.max(deepest, depth(c, reached, known, open) + (again ? 0 : 1));
            }
            open.remove(m);
            // Within a recursion what was left out above may still be deeper by another way.
            if (!reached.getOrDefault(m, Set.of()).contains(m)) known.put(m, deepest);
            return deepest;
        }
    }
}
