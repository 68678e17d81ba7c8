import com.sun.source.tree.BinaryTree;
import com.sun.source.tree.ClassTree;
import com.sun.source.tree.CompilationUnitTree;
import com.sun.source.tree.EnhancedForLoopTree;
import com.sun.source.tree.InstanceOfTree;
import com.sun.source.tree.LambdaExpressionTree;
import com.sun.source.tree.MemberReferenceTree;
import com.sun.source.tree.MethodInvocationTree;
import com.sun.source.tree.MethodTree;
import com.sun.source.tree.NewArrayTree;
import com.sun.source.tree.NewClassTree;
import com.sun.source.tree.Tree;
import com.sun.source.tree.TypeCastTree;
import com.sun.source.tree.VariableTree;
import com.sun.source.tree.WhileLoopTree;
import com.sun.source.util.JavacTask;
import com.sun.source.util.TreePath;
import com.sun.source.util.TreePathScanner;
import com.sun.source.util.Trees;
import java.nio.file.Path;
import java.util.HashSet;
import java.util.List;
import java.util.Map;
import java.util.Set;
import java.util.TreeMap;
import java.util.TreeSet;
import javax.lang.model.element.Element;
import javax.lang.model.element.ExecutableElement;
import javax.lang.model.element.Modifier;
import javax.lang.model.element.TypeElement;
import javax.lang.model.type.TypeMirror;
import javax.tools.JavaCompiler;
import javax.tools.StandardJavaFileManager;
import javax.tools.ToolProvider;

/** What of ../shared/LANGUAGE.md the compiler's own trees tell: types, calls, recursion, how deep calls go. */
public final class TreeTest {
    private static final Due due = new Due();
    private static final String OWN = "LetterNights";
    private static final int DEEPEST = 8;

    /** Rule 4, as far as there is use for it: what is called in Math and Arrays LanguageTest looks up. */
    private static final Set<String> LIBRARY = Set.of("java.lang.String.length", "java.lang.String.charAt", "java.lang.String.isEmpty",
            "java.lang.String.equals", "java.lang.String.indexOf", "java.lang.String.substring", "java.lang.String.toCharArray",
            "java.lang.Math.min", "java.lang.Math.max", "java.lang.Math.abs", "java.lang.Math.floorMod", "java.lang.Math.floorDiv",
            "java.lang.System.arraycopy", "java.util.Arrays.fill", "java.util.Arrays.copyOf", "java.util.Arrays.copyOfRange");

    private static final Set<String> NUMBERS = Set.of("int", "long", "short", "byte", "char", "boolean", "double", "float");

    private static Trees trees;
    private static final Map<String, Set<String>> calls = new TreeMap<>();
    private static final Map<String, Set<Modifier>> methods = new TreeMap<>();
    private static final Set<String> carryingDepth = new HashSet<>();

    public static void main(String[] args) throws Exception {
        JavaCompiler compiler = ToolProvider.getSystemJavaCompiler();
        due.holds("there is a compiler", compiler != null);
        if (compiler != null) {
            read(compiler);
            recursion();
            depth();
        }
        due.close("TreeTest");
    }

    private static void read(JavaCompiler compiler) throws Exception {
        Path main = Path.of(System.getProperty("main.file", "src/main/java/LetterNights.java"));
        try (StandardJavaFileManager files = compiler.getStandardFileManager(null, null, null)) {
            JavacTask task = (JavacTask) compiler.getTask(null, files, null, List.of("-proc:none"), null, files.getJavaFileObjects(main));
            Iterable<? extends CompilationUnitTree> units = task.parse();
            task.analyze();
            trees = Trees.instance(task);
            for (CompilationUnitTree unit : units) {
                new Looker().scan(unit, null);
            }
        }
    }

    private static final class Looker extends TreePathScanner<Void, Void> {
        private String inside = "";

        private String line(Tree tree) {
            CompilationUnitTree unit = getCurrentPath().getCompilationUnit();
            return "line " + unit.getLineMap().getLineNumber(trees.getSourcePositions().getStartPosition(unit, tree));
        }

        private TypeMirror typeOf(Tree tree) {
            return trees.getTypeMirror(new TreePath(getCurrentPath(), tree));
        }

        private void type(Tree told, String what) {
            String name = told == null ? "void" : String.valueOf(typeOf(told));
            String one = name.endsWith("[]") ? name.substring(0, name.length() - 2) : name;
            boolean numbersOfTwo = one.endsWith("[]") && NUMBERS.contains(one.substring(0, one.length() - 2));
            due.holds("3: " + what + " is of type " + name, name.equals("void") || NUMBERS.contains(one) || numbersOfTwo
                    || one.startsWith(OWN) || name.equals("java.lang.String"));
            due.holds("3: no double yet, " + what, !one.equals("double") && !one.equals("float"));
        }

        @Override
        public Void visitClass(ClassTree node, Void p) {
            Element self = trees.getElement(getCurrentPath());
            boolean outer = self.toString().equals(OWN);
            due.holds("2: static and named: " + self, outer || self.getModifiers().contains(Modifier.STATIC) && self.getEnclosingElement().toString().equals(OWN));
            due.holds("2: of its own alone: " + self, node.getExtendsClause() == null);
            return super.visitClass(node, p);
        }

        @Override
        public Void visitMethod(MethodTree node, Void p) {
            ExecutableElement self = (ExecutableElement) trees.getElement(getCurrentPath());
            String before = inside;
            inside = nameOf(self);
            methods.put(inside, self.getModifiers());
            if (node.getParameters().stream().anyMatch(told -> told.getName().contentEquals("depth"))) {
                carryingDepth.add(inside);
            }
            calls.putIfAbsent(inside, new TreeSet<>());
            due.holds("6: no equals, hashCode, toString", !Set.of("equals", "hashCode", "toString").contains(node.getName().toString()));
            due.holds("11: seven parameters: " + inside, node.getParameters().size() <= 7);
            due.holds("6: throws nothing: " + inside, node.getThrows().isEmpty());
            if (!node.getName().contentEquals("<init>")) {
                type(node.getReturnType(), inside);
            }
            super.visitMethod(node, p);
            inside = before;
            return null;
        }

        @Override
        public Void visitVariable(VariableTree node, Void p) {
            type(node.getType(), node.getName().toString());
            Element self = trees.getElement(getCurrentPath());
            boolean field = self.getKind().isField();
            if (field && self.getModifiers().contains(Modifier.STATIC)) {
                due.holds("5: final: " + self, self.getModifiers().contains(Modifier.FINAL));
            }
            return super.visitVariable(node, p);
        }

        @Override
        public Void visitMethodInvocation(MethodInvocationTree node, Void p) {
            ExecutableElement called = (ExecutableElement) trees.getElement(getCurrentPath());
            String name = nameOf(called);
            boolean own = name.startsWith(OWN);
            due.holds("4: " + name + " in " + line(node), own || LIBRARY.contains(name) || name.equals("java.lang.Object.<init>"));
            if (!inside.isEmpty()) {
                calls.get(inside).add(name);
            }
            return super.visitMethodInvocation(node, p);
        }

        @Override
        public Void visitNewClass(NewClassTree node, Void p) {
            ExecutableElement called = (ExecutableElement) trees.getElement(getCurrentPath());
            String name = nameOf(called);
            due.holds("4: new " + name, name.startsWith(OWN));
            due.holds("2: no anonymous class", node.getClassBody() == null);
            if (!inside.isEmpty()) {
                calls.get(inside).add(name);
            }
            return super.visitNewClass(node, p);
        }

        @Override
        public Void visitBinary(BinaryTree node, Void p) {
            String left = String.valueOf(typeOf(node.getLeftOperand()));
            String right = String.valueOf(typeOf(node.getRightOperand()));
            boolean text = left.equals("java.lang.String") || right.equals("java.lang.String");
            due.holds("10, 6: no texts joined by +, none compared by ==: " + line(node), !text);
            return super.visitBinary(node, p);
        }

        @Override
        public Void visitTypeCast(TypeCastTree node, Void p) {
            due.holds("6: casts are of numbers: " + line(node), NUMBERS.contains(node.getType().toString()));
            return super.visitTypeCast(node, p);
        }

        @Override
        public Void visitInstanceOf(InstanceOfTree node, Void p) {
            due.holds("6: a pattern of an own class: " + line(node), String.valueOf(typeOf(node.getType())).startsWith(OWN));
            return super.visitInstanceOf(node, p);
        }

        @Override
        public Void visitLambdaExpression(LambdaExpressionTree node, Void p) {
            due.holds("2: no lambda: " + line(node), false);
            return null;
        }

        @Override
        public Void visitMemberReference(MemberReferenceTree node, Void p) {
            due.holds("2: no method reference: " + line(node), false);
            return null;
        }

        @Override
        public Void visitWhileLoop(WhileLoopTree node, Void p) {
            due.holds("9: an end that can be seen: " + line(node), node.getCondition().toString().contains(" < "));
            return super.visitWhileLoop(node, p);
        }

        @Override
        public Void visitEnhancedForLoop(EnhancedForLoopTree node, Void p) {
            due.holds("10: for over an array: " + line(node), String.valueOf(typeOf(node.getExpression())).endsWith("[]"));
            return super.visitEnhancedForLoop(node, p);
        }

        @Override
        public Void visitNewArray(NewArrayTree node, Void p) {
            due.holds("3: of one dimension: " + line(node), node.getDimensions().size() <= 1);
            return super.visitNewArray(node, p);
        }
    }

    private static String nameOf(ExecutableElement method) {
        return ((TypeElement) method.getEnclosingElement()).getQualifiedName() + "." + method.getSimpleName();
    }

    private static Set<String> reachedFrom(String method) {
        Set<String> reached = new HashSet<>();
        List<String> open = new java.util.ArrayList<>(calls.getOrDefault(method, Set.of()));
        while (!open.isEmpty()) {
            String next = open.remove(open.size() - 1);
            if (reached.add(next)) {
                open.addAll(calls.getOrDefault(next, Set.of()));
            }
        }
        return reached;
    }

    /** Rule 8: what comes to itself again is private, and carries its depth. */
    private static void recursion() {
        for (String method : methods.keySet()) {
            if (reachedFrom(method).contains(method)) {
                due.holds("8: private: " + method, methods.get(method).contains(Modifier.PRIVATE));
                due.holds("8: it carries its depth: " + method, carryingDepth.contains(method));
            }
        }
    }

    /** Rule 11: along calls that are no recursion, the library's own counted, too. */
    private static void depth() {
        for (String method : methods.keySet()) {
            if (methods.get(method).contains(Modifier.PUBLIC)) {
                int deep = depthOf(method, new HashSet<>());
                due.holds("11: calls go " + deep + " deep from " + method, deep <= DEEPEST);
            }
        }
    }

    /** Calls of methods that come to one another are recursion: each counts once, by what it calls beside these. */
    private static int depthOf(String method, Set<String> above) {
        int deepest = 0;
        Set<String> here = new HashSet<>(above);
        here.add(method);
        for (String next : calls.getOrDefault(method, Set.of())) {
            if (!here.contains(next)) {
                boolean again = reachedFrom(next).contains(method);
                deepest = Math.max(deepest, depthOf(next, here) - (again ? 1 : 0));
            }
        }
        return deepest + 1;
    }
}
