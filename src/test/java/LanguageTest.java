import com.sun.source.tree.ArrayAccessTree;
import com.sun.source.tree.AssertTree;
import com.sun.source.tree.AssignmentTree;
import com.sun.source.tree.BinaryTree;
import com.sun.source.tree.BlockTree;
import com.sun.source.tree.ClassTree;
import com.sun.source.tree.CompilationUnitTree;
import com.sun.source.tree.CompoundAssignmentTree;
import com.sun.source.tree.DoWhileLoopTree;
import com.sun.source.tree.ExpressionTree;
import com.sun.source.tree.ForLoopTree;
import com.sun.source.tree.IdentifierTree;
import com.sun.source.tree.LambdaExpressionTree;
import com.sun.source.tree.LiteralTree;
import com.sun.source.tree.MemberReferenceTree;
import com.sun.source.tree.MemberSelectTree;
import com.sun.source.tree.MethodInvocationTree;
import com.sun.source.tree.MethodTree;
import com.sun.source.tree.NewArrayTree;
import com.sun.source.tree.NewClassTree;
import com.sun.source.tree.SynchronizedTree;
import com.sun.source.tree.ThrowTree;
import com.sun.source.tree.Tree;
import com.sun.source.tree.TryTree;
import com.sun.source.tree.UnaryTree;
import com.sun.source.tree.VariableTree;
import com.sun.source.tree.WhileLoopTree;
import com.sun.source.util.JavacTask;
import com.sun.source.util.SourcePositions;
import com.sun.source.util.TreePath;
import com.sun.source.util.TreePathScanner;
import com.sun.source.util.Trees;
import java.io.IOException;
import java.net.URI;
import java.nio.file.Files;
import java.nio.file.Path;
import java.util.HashSet;
import java.util.LinkedHashMap;
import java.util.List;
import java.util.Map;
import java.util.Set;
import java.util.TreeSet;
import javax.lang.model.element.Element;
import javax.lang.model.element.ElementKind;
import javax.lang.model.element.ExecutableElement;
import javax.lang.model.element.Modifier;
import javax.lang.model.element.VariableElement;
import javax.lang.model.type.ArrayType;
import javax.lang.model.type.TypeKind;
import javax.lang.model.type.TypeMirror;
import javax.tools.JavaFileObject;
import javax.tools.SimpleJavaFileObject;
import javax.tools.ToolProvider;

/**
 * Holds the class to LANGUAGE.md by the compiler's own tree of it. Each rule that is looked at is tried on a
 * small class that breaks it, too, so that a check that sees nothing is told.
 */
public final class LanguageTest {
    private static final int MOST_PARAMETERS = 7;
    private static final int MOST_LINES = 60;
    private static final int MOST_DEPTH = 8;
    private static final int MOST_CLASSES = 12;
    private static final int MOST_FIELDS = 20;

    private static final Set<String> LIBRARY = Set.of(
        "String.length", "String.charAt", "String.isEmpty", "String.equals", "String.indexOf", "String.substring",
        "String.toCharArray", "String.<init>", "StringBuilder.<init>", "StringBuilder.append", "StringBuilder.charAt",
        "StringBuilder.setCharAt", "StringBuilder.setLength", "StringBuilder.deleteCharAt", "StringBuilder.reverse",
        "StringBuilder.length", "StringBuilder.toString", "ArrayList.<init>", "ArrayList.add", "ArrayList.get",
        "ArrayList.set", "ArrayList.remove", "ArrayList.size", "ArrayList.isEmpty", "ArrayList.clear", "List.add",
        "List.get", "List.set", "List.remove", "List.size", "List.isEmpty", "List.clear", "List.of",
        "System.arraycopy", "Arrays.copyOf", "Arrays.copyOfRange", "Arrays.fill", "Object.<init>");
    private static final Set<String> TYPES = Set.of("java.lang.String", "java.lang.StringBuilder", "java.lang.Integer",
        "java.util.ArrayList", "java.util.List", "java.util.Iterator", "java.lang.Iterable", "java.lang.Comparable");

    private static int wrong = 0;

    /** A source that is not in a file. */
    private static final class Source extends SimpleJavaFileObject {
        private final String text;

        Source(String text) {
            super(URI.create("string:///LampShapes.java"), JavaFileObject.Kind.SOURCE);
            this.text = text;
        }

        @Override
        public CharSequence getCharContent(boolean ignored) {
            return text;
        }
    }

    /** Walks one source and gathers what breaks a rule: the rule's number, what it is, and its line. */
    private static final class Rules extends TreePathScanner<Void, Void> {
        final Set<String> faults = new TreeSet<>();
        private final Trees trees;
        private final SourcePositions positions;
        private final CompilationUnitTree unit;
        private final Map<Element, Set<Element>> calls = new LinkedHashMap<>();
        private final Set<Element> open = new HashSet<>();
        private int classes = 0;

        Rules(JavacTask task, CompilationUnitTree unit) {
            this.trees = Trees.instance(task);
            this.positions = trees.getSourcePositions();
            this.unit = unit;
        }

        private void fault(int rule, String what, Tree at) {
            faults.add("rule " + rule + ": " + what + " (line " + lineOf(positions.getStartPosition(unit, at)) + ")");
        }

        private long lineOf(long position) {
            return position < 0 ? 0 : unit.getLineMap().getLineNumber(position);
        }

        private Element here() {
            return trees.getElement(getCurrentPath());
        }

        private Element elementOf(Tree tree) {
            return trees.getElement(new TreePath(getCurrentPath(), tree));
        }

        private TypeMirror typeOf(Tree tree) {
            return trees.getTypeMirror(new TreePath(getCurrentPath(), tree));
        }

        private static boolean isOwn(Element e) {
            Element at = e;
            while (at.getEnclosingElement() != null && at.getEnclosingElement().getKind() != ElementKind.PACKAGE) {
                at = at.getEnclosingElement();
            }
            return at.getSimpleName().contentEquals("LampShapes");
        }

        private static boolean isNamed(TypeMirror type, String... names) {
            return type != null && List.of(names).contains(type.toString().replaceAll("<.*", ""));
        }

        private static boolean isAllowed(TypeMirror type, int dimensions) {
            if (type.getKind().isPrimitive()) {
                return dimensions <= 2;
            }
            switch (type.getKind()) {
                case VOID:
                    return true;
                case ARRAY:
                    return isAllowed(((ArrayType) type).getComponentType(), dimensions + 1);
                case TYPEVAR:
                    return dimensions == 0;
                default:
                    String name = type.toString().replaceAll("<.*", "");
                    return dimensions <= 1 && name.startsWith("LampShapes") || dimensions == 0 && TYPES.contains(name);
            }
        }

        @Override
        public Void visitClass(ClassTree node, Void v) {
            classes++;
            if (classes > MOST_CLASSES) {
                fault(11, "more than " + MOST_CLASSES + " classes", node);
            }
            Element e = here();
            boolean outermost = e.getEnclosingElement().getKind() == ElementKind.PACKAGE;
            Set<Modifier> is = e.getModifiers();
            if (!outermost && (!is.contains(Modifier.STATIC) || is.contains(Modifier.PUBLIC) || is.contains(Modifier.PROTECTED))) {
                fault(2, "a class inside that isn't static, or is public: " + node.getSimpleName(), node);
            }
            int fields = 0;
            for (Tree member : node.getMembers()) {
                if (member instanceof VariableTree && !elementOf(member).getModifiers().contains(Modifier.STATIC)) {
                    fields++;
                }
                if (member instanceof BlockTree && ((BlockTree) member).isStatic()) {
                    fault(5, "a static initialiser block", member);
                }
            }
            if (fields > MOST_FIELDS) {
                fault(11, fields + " fields in " + node.getSimpleName(), node);
            }
            return super.visitClass(node, v);
        }

        @Override
        public Void visitVariable(VariableTree node, Void v) {
            Element e = here();
            if (!isAllowed(e.asType(), 0)) {
                fault(3, "the type " + e.asType(), node);
            }
            if (e.getKind() == ElementKind.FIELD && e.getModifiers().contains(Modifier.STATIC)) {
                staticField((VariableElement) e, node);
            }
            return super.visitVariable(node, v);
        }

        private void staticField(VariableElement e, VariableTree node) {
            boolean isText = isNamed(e.asType(), "int", "long", "boolean", "char", "java.lang.String");
            boolean isRow = isNamed(e.asType(), "int[]", "long[]", "char[]", "byte[]")
                && node.getInitializer() instanceof NewArrayTree
                && ((NewArrayTree) node.getInitializer()).getInitializers() != null;
            if (!e.getModifiers().contains(Modifier.FINAL) || !isText && !isRow) {
                fault(5, "the static field " + e, node);
            }
        }

        @Override
        public Void visitMethod(MethodTree node, Void v) {
            ExecutableElement e = (ExecutableElement) here();
            calls.putIfAbsent(e, new HashSet<>());
            if (!isAllowed(e.getReturnType(), 0)) {
                fault(3, "the type " + e.getReturnType(), node);
            }
            if (List.of("equals", "hashCode", "toString").contains(e.getSimpleName().toString())) {
                fault(6, "a method " + e, node);
            }
            if (e.getParameters().size() > MOST_PARAMETERS) {
                fault(11, "too many parameters: " + e, node);
            }
            long first = lineOf(positions.getStartPosition(unit, node));
            if (lineOf(positions.getEndPosition(unit, node)) - first >= MOST_LINES) {
                fault(11, "too long: " + e, node);
            }
            return super.visitMethod(node, v);
        }

        /** The method or constructor that stands around, or null in a field's initialiser. */
        private ExecutableElement around() {
            for (TreePath p = getCurrentPath(); p != null; p = p.getParentPath()) {
                if (p.getLeaf() instanceof MethodTree) {
                    return (ExecutableElement) trees.getElement(p);
                }
                if (p.getLeaf() instanceof ClassTree) {
                    return null;
                }
            }
            return null;
        }

        private boolean isInTheMaking() {
            ExecutableElement e = around();
            return e == null || e.getKind() == ElementKind.CONSTRUCTOR;
        }

        private void called(Element target, List<? extends ExpressionTree> arguments, Tree at) {
            if (target == null) {
                return;
            }
            if (!isOwn(target)) {
                libraryCall((ExecutableElement) target, at);
            } else if (around() != null) {
                calls.computeIfAbsent(around(), k -> new HashSet<>()).add(target);
            }
            if (isInTheMaking()) {
                for (ExpressionTree argument : arguments) {
                    handedOut(argument);
                }
            }
        }

        private void libraryCall(ExecutableElement e, Tree at) {
            String owner = e.getEnclosingElement().getSimpleName().toString();
            String name = owner + "." + e.getSimpleName();
            boolean isSum = List.of("Math", "Integer", "Long").contains(owner) && e.getModifiers().contains(Modifier.STATIC)
                && !e.getSimpleName().toString().endsWith("Exact") && isNamed(e.getReturnType(), "int", "long");
            for (VariableElement p : e.getParameters()) {
                isSum &= isNamed(p.asType(), "int", "long");
            }
            boolean isArrayClone = name.equals("Object.clone") || name.equals("Array.clone");
            if (!isSum && !isArrayClone && !LIBRARY.contains(name)) {
                fault(4, "the library's " + name, at);
            }
        }

        /** What a constructor, or a field's initialiser, gives to a call must be nothing of the object itself. */
        private void handedOut(ExpressionTree argument) {
            Element e = elementOf(argument);
            boolean isThis = argument instanceof IdentifierTree && ((IdentifierTree) argument).getName().contentEquals("this");
            boolean isPart = e != null && e.getKind() == ElementKind.FIELD && isOwn(e)
                && !e.getModifiers().contains(Modifier.STATIC) && !e.asType().getKind().isPrimitive();
            if (isThis || isPart) {
                fault(12, "a constructor hands out " + argument, argument);
            }
        }

        @Override
        public Void visitMethodInvocation(MethodInvocationTree node, Void v) {
            called(here(), node.getArguments(), node);
            return super.visitMethodInvocation(node, v);
        }

        @Override
        public Void visitNewClass(NewClassTree node, Void v) {
            if (node.getClassBody() != null) {
                fault(2, "an anonymous class", node);
            }
            madeByACall(node);
            called(here(), node.getArguments(), node);
            return super.visitNewClass(node, v);
        }

        @Override
        public Void visitNewArray(NewArrayTree node, Void v) {
            madeByACall(node);
            return super.visitNewArray(node, v);
        }

        /** Stricter than rule 12: what no call makes needs no counting, however many calls a run has. */
        private void madeByACall(Tree node) {
            if (!isInTheMaking()) {
                fault(12, "a call makes an object (this project makes all in constructors)", node);
            }
        }

        @Override
        public Void visitMemberSelect(MemberSelectTree node, Void v) {
            Element e = here();
            boolean isLength = node.getIdentifier().contentEquals("length");
            if (e != null && e.getKind() == ElementKind.FIELD && !isOwn(e) && !isLength) {
                fault(4, "the library's " + node, node);
            }
            return super.visitMemberSelect(node, v);
        }

        @Override
        public Void visitLiteral(LiteralTree node, Void v) {
            if (node.getValue() instanceof String && !((String) node.getValue()).matches("[\\x01-\\x7f]*")) {
                fault(4, "a sign beyond 127 in " + node, node);
            }
            return super.visitLiteral(node, v);
        }

        @Override
        public Void visitBinary(BinaryTree node, Void v) {
            boolean isSame = node.getKind() == Tree.Kind.EQUAL_TO || node.getKind() == Tree.Kind.NOT_EQUAL_TO;
            String[] kinds = {"java.lang.String", "java.lang.Integer"};
            if (isSame && isNamed(typeOf(node.getLeftOperand()), kinds) && isNamed(typeOf(node.getRightOperand()), kinds)) {
                fault(6, node.toString(), node);
            }
            if (node.getKind() == Tree.Kind.PLUS && isNamed(typeOf(node), "java.lang.String")) {
                fault(10, "texts joined by +", node);
            }
            return super.visitBinary(node, v);
        }

        @Override
        public Void visitCompoundAssignment(CompoundAssignmentTree node, Void v) {
            changed(node.getVariable());
            if (isNamed(typeOf(node.getVariable()), "java.lang.String")) {
                fault(10, "texts joined by +=", node);
            }
            return super.visitCompoundAssignment(node, v);
        }

        @Override
        public Void visitAssignment(AssignmentTree node, Void v) {
            changed(node.getVariable());
            return super.visitAssignment(node, v);
        }

        @Override
        public Void visitUnary(UnaryTree node, Void v) {
            switch (node.getKind()) {
                case PREFIX_INCREMENT:
                case PREFIX_DECREMENT:
                case POSTFIX_INCREMENT:
                case POSTFIX_DECREMENT:
                    changed(node.getExpression());
                    break;
                default:
                    break;
            }
            return super.visitUnary(node, v);
        }

        private void changed(ExpressionTree place) {
            if (place instanceof ArrayAccessTree) {
                Element row = elementOf(((ArrayAccessTree) place).getExpression());
                if (row != null && row.getKind() == ElementKind.FIELD && row.getModifiers().contains(Modifier.STATIC)) {
                    fault(5, "a static row is changed: " + place, place);
                }
            }
        }

        @Override
        public Void visitLambdaExpression(LambdaExpressionTree node, Void v) {
            fault(2, "a lambda", node);
            return super.visitLambdaExpression(node, v);
        }

        @Override
        public Void visitMemberReference(MemberReferenceTree node, Void v) {
            fault(2, "a method reference", node);
            return super.visitMemberReference(node, v);
        }

        @Override
        public Void visitThrow(ThrowTree node, Void v) {
            fault(6, "throw", node);
            return super.visitThrow(node, v);
        }

        @Override
        public Void visitTry(TryTree node, Void v) {
            fault(6, "try", node);
            return super.visitTry(node, v);
        }

        @Override
        public Void visitSynchronized(SynchronizedTree node, Void v) {
            fault(6, "synchronized", node);
            return super.visitSynchronized(node, v);
        }

        @Override
        public Void visitAssert(AssertTree node, Void v) {
            fault(6, "assert", node);
            return super.visitAssert(node, v);
        }

        @Override
        public Void visitWhileLoop(WhileLoopTree node, Void v) {
            mustEnd(node.getCondition(), node);
            return super.visitWhileLoop(node, v);
        }

        @Override
        public Void visitDoWhileLoop(DoWhileLoopTree node, Void v) {
            mustEnd(node.getCondition(), node);
            return super.visitDoWhileLoop(node, v);
        }

        @Override
        public Void visitForLoop(ForLoopTree node, Void v) {
            mustEnd(node.getCondition(), node);
            return super.visitForLoop(node, v);
        }

        private void mustEnd(ExpressionTree condition, Tree loop) {
            if (condition == null || condition.toString().replaceAll("[()]", "").equals("true")) {
                fault(9, "a loop without an end", loop);
            }
        }

        void depths() {
            for (Element e : List.copyOf(calls.keySet())) {
                int depth = depthOf(e);
                if (depth > MOST_DEPTH) {
                    faults.add("rule 11: " + e + " goes " + depth + " deep");
                }
            }
        }

        private int depthOf(Element e) {
            if (!open.add(e)) {
                faults.add("rule 8: " + e + " calls itself (none does in this project)");
                return 0;
            }
            int deepest = 0;
            for (Element next : calls.getOrDefault(e, Set.of())) {
                deepest = Math.max(deepest, depthOf(next));
            }
            open.remove(e);
            return 1 + deepest;
        }
    }

    private static Set<String> faultsOf(String text) throws IOException {
        JavacTask task = (JavacTask) ToolProvider.getSystemJavaCompiler().getTask(
            null, null, d -> { }, List.of("-proc:none"), null, List.of(new Source(text)));
        Set<String> faults = new TreeSet<>();
        for (CompilationUnitTree unit : task.parse()) {
            task.analyze();
            Rules rules = new Rules(task, unit);
            rules.scan(unit, null);
            rules.depths();
            faults.addAll(rules.faults);
            if (!unit.getImports().isEmpty() && !unit.getImports().toString().matches("(import java\\.util\\.(ArrayList|List|Arrays|Iterator);\\s*,?\\s*)+")) {
                faults.add("rule 4: " + unit.getImports());
            }
            if (unit.getTypeDecls().size() != 1 || unit.getPackage() != null) {
                faults.add("rule 1: one class, without a package");
            }
        }
        return faults;
    }

    /** A small class with these members must be seen to break a rule; 0: none. */
    private static void breaks(int rule, String members) throws IOException {
        breaksWhole(rule, "public final class LampShapes { " + members + " }");
    }

    private static void breaksWhole(int rule, String source) throws IOException {
        Set<String> faults = faultsOf(source);
        boolean seen = rule == 0 ? faults.isEmpty() : false;
        for (String f : faults) {
            seen |= f.startsWith("rule " + rule + ":");
        }
        if (!seen) {
            wrong++;
            System.out.println("the check of rule " + rule + " says " + faults + " of " + source);
        }
    }

    private static void checksSee() throws IOException {
        breaks(0, "private final int[] a = new int[3]; public int f(int i) { return i < 0 || i > 2 ? 0 : a[i]; }");
        breaksWhole(1, "public final class LampShapes { } class Other { }");
        breaksWhole(1, "package lamp; public final class LampShapes { }");
        breaksWhole(4, "import java.util.Random; public final class LampShapes { }");
        breaksWhole(0, "import java.util.List; import java.util.ArrayList; public final class LampShapes { }");
        breaks(2, "private class In { }");
        breaks(2, "protected static class In { }");
        breaks(2, "public int f() { class In { } return 0; }");
        breaks(2, "public static class In { }");
        breaks(2, "private Object o = new Object() { };");
        breaks(2, "private Runnable r = () -> { };");
        breaks(2, "private Runnable r = System::gc;");
        breaks(3, "private Object o;");
        breaks(3, "private int[][][] o;");
        breaks(3, "private String[] o;");
        breaks(4, "public int f() { return Math.addExact(1, 2); }");
        breaks(4, "public long f() { return System.nanoTime(); }");
        breaks(4, "public int f() { return Integer.parseInt(\"1\"); }");
        breaks(4, "public int f() { return Integer.MAX_VALUE; }");
        breaks(4, "private String s = \"" + (char) 233 + "\";");
        breaks(5, "private static int n = 3;");
        breaks(5, "private static final int[] N = new int[3];");
        breaks(5, "private static final int[] N = {1, 2}; public void f() { N[0]++; }");
        breaks(5, "private static final int[] N = {1, 2}; public void f() { N[0] = 3; }");
        breaks(5, "static { }");
        breaks(6, "public void f() { throw new IllegalArgumentException(); }");
        breaks(6, "public void f() { try { } finally { } }");
        breaks(6, "public void f() { synchronized (this) { } }");
        breaks(6, "public void f() { assert true; }");
        breaks(6, "public String toString() { return \"\"; }");
        breaks(6, "public boolean f(String a, String b) { return a == b; }");
        breaks(8, "private static int g(int n) { return n < 1 ? 0 : h(n - 1); } private static int h(int n) { return g(n); }");
        breaks(9, "public void f() { while (true) { } }");
        breaks(9, "public void f() { for (;;) { } }");
        breaks(9, "public void f() { do { } while (true); }");
        breaks(10, "public String f(String a) { return a + \"b\"; }");
        breaks(10, "public String f(String a) { a += \"b\"; return a; }");
        breaks(11, "public void f(int a, int b, int c, int d, int e, int g, int h, int i) { }");
        breaks(11, "public void f() { " + "\n".repeat(60) + " }");
        breaks(11, "private int a" + numbered(21) + ";");
        breaks(11, chain(9));
        breaks(0, chain(8));
        breaks(11, manyClasses(12));
        breaks(0, manyClasses(11));
        breaks(12, "public int f() { int[] a = new int[3]; return 0; }");
        String parts = "private static final class P { } private static final class Q { Q(P p) { } } private final P p = new P(); ";
        breaks(12, parts + "private final Q q = new Q(p);");
        breaks(12, parts + "private final Q q = new Q(this.p);");
        breaks(12, parts + "private final Q q; public LampShapes() { q = new Q(p); }");
        breaks(12, "private static final class Q { Q(LampShapes x) { } } private final Q q = new Q(this);");
    }

    private static String numbered(int n) {
        StringBuilder b = new StringBuilder();
        for (int i = 1; i < n; i++) {
            b.append(", a").append(i);
        }
        return b.toString();
    }

    private static String chain(int n) {
        StringBuilder b = new StringBuilder();
        for (int i = 1; i < n; i++) {
            b.append("private void f").append(i).append("() { f").append(i + 1).append("(); } ");
        }
        return b.append("private void f").append(n).append("() { }").toString();
    }

    private static String manyClasses(int n) {
        StringBuilder b = new StringBuilder();
        for (int i = 0; i < n; i++) {
            b.append("private static final class C").append(i).append(" { } ");
        }
        return b.toString();
    }

    public static void main(String[] args) throws IOException {
        checksSee();
        for (String f : faultsOf(Files.readString(Path.of("src/main/java/LampShapes.java")))) {
            wrong++;
            System.out.println(f);
        }
        System.out.println(wrong == 0 ? "the class keeps to LANGUAGE.md" : wrong + " faults");
        if (wrong != 0) {
            System.exit(1);
        }
    }
}
