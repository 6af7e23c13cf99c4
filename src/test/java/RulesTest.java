import com.sun.source.tree.BinaryTree;
import com.sun.source.tree.ClassTree;
import com.sun.source.tree.CompilationUnitTree;
import com.sun.source.tree.IdentifierTree;
import com.sun.source.tree.LineMap;
import com.sun.source.tree.MemberSelectTree;
import com.sun.source.tree.MethodInvocationTree;
import com.sun.source.tree.MethodTree;
import com.sun.source.tree.NewClassTree;
import com.sun.source.tree.Tree;
import com.sun.source.tree.VariableTree;
import com.sun.source.util.JavacTask;
import com.sun.source.util.SourcePositions;
import com.sun.source.util.TreePath;
import com.sun.source.util.TreePathScanner;
import com.sun.source.util.Trees;
import java.io.File;
import java.util.ArrayList;
import java.util.HashMap;
import java.util.HashSet;
import java.util.List;
import java.util.Map;
import java.util.Set;
import javax.lang.model.element.Element;
import javax.lang.model.element.ElementKind;
import javax.lang.model.element.Modifier;
import javax.tools.JavaCompiler;
import javax.tools.StandardJavaFileManager;
import javax.tools.ToolProvider;

/** What can be counted of ../shared/LANGUAGE.md, over the source of the class itself. */
public final class RulesTest {
    private static final Set<String> FACE = Set.of("type", "enter", "login", "out", "wipe", "input",
        "console", "messages", "message", "sum", "feed", "ask", "answer", "process", "variable",
        "dot", "point", "member", "descriptor", "server", "fid");
    /** What stands in rule 4, and what this class needs of it. */
    private static final Set<String> LIBRARY = Set.of("String.length", "String.charAt", "Math.min",
        "Math.max", "Object.<init>");
    private static final Set<Tree.Kind> FORBIDDEN = Set.of(Tree.Kind.IMPORT, Tree.Kind.TRY,
        Tree.Kind.THROW, Tree.Kind.LAMBDA_EXPRESSION, Tree.Kind.MEMBER_REFERENCE,
        Tree.Kind.SYNCHRONIZED, Tree.Kind.ASSERT, Tree.Kind.TYPE_CAST, Tree.Kind.INSTANCE_OF);

    private final Map<Element, Set<Element>> calls = new HashMap<>();
    private final Map<Element, Integer> depths = new HashMap<>();
    private final List<Element> open = new ArrayList<>();
    private int classes = 0;

    private RulesTest() {
    }

    public static void main(String[] args) throws Exception {
        new RulesTest().check(new File("src/main/java/SpaceHouse.java"));
        Check.end("RulesTest");
    }

    private void check(File source) throws Exception {
        JavaCompiler compiler = ToolProvider.getSystemJavaCompiler();
        try (StandardJavaFileManager files = compiler.getStandardFileManager(null, null, null)) {
            JavacTask task = (JavacTask) compiler.getTask(null, files, null, List.of("-proc:none"),
                null, files.getJavaFileObjects(source));
            Trees trees = Trees.instance(task);
            for (CompilationUnitTree unit : task.parse()) {
                task.analyze();
                new Scanner(trees, unit).scan(new TreePath(unit), null);
            }
        }
        Check.due("classes, some twelve", classes <= 13 ? 1 : 0, 1);
        int deepest = 0;
        for (Element method : calls.keySet()) {
            deepest = Math.max(deepest, depth(method));
        }
        System.out.println("RulesTest: " + classes + " classes, calls " + deepest + " deep");
        Check.due("calls at most eight deep", deepest <= 8 ? 1 : 0, 1);
    }

    private int depth(Element method) {
        if (depths.containsKey(method)) {
            return depths.get(method);
        }
        if (open.contains(method)) {
            Check.due("recursion in " + method, 1, 0);
            return 0;
        }
        open.add(method);
        int deepest = 0;
        for (Element called : calls.getOrDefault(method, Set.of())) {
            if (calls.containsKey(called)) {
                deepest = Math.max(deepest, depth(called));
            }
        }
        open.remove(method);
        depths.put(method, deepest + 1);
        return deepest + 1;
    }

    private final class Scanner extends TreePathScanner<Void, Void> {
        private final Trees trees;
        private final CompilationUnitTree unit;
        private final LineMap lines;
        private final SourcePositions positions;
        private Element method;

        Scanner(Trees theTrees, CompilationUnitTree theUnit) {
            trees = theTrees;
            unit = theUnit;
            lines = unit.getLineMap();
            positions = trees.getSourcePositions();
        }

        private Element element(Tree tree) {
            return trees.getElement(new TreePath(getCurrentPath(), tree));
        }

        private long line(Tree tree) {
            return lines.getLineNumber(positions.getStartPosition(unit, tree));
        }

        @Override
        public Void scan(Tree tree, Void nothing) {
            if (tree != null && FORBIDDEN.contains(tree.getKind())
                    && !(tree.getKind() == Tree.Kind.TYPE_CAST && isNumber(tree))) {
                Check.due("line " + line(tree) + " has a " + tree.getKind(), 1, 0);
            }
            return super.scan(tree, nothing);
        }

        private boolean isNumber(Tree cast) {
            String text = cast.toString();
            return text.startsWith("(int)") || text.startsWith("(long)") || text.startsWith("(byte)");
        }

        @Override
        public Void visitClass(ClassTree tree, Void nothing) {
            classes++;
            int fields = 0;
            for (Tree member : tree.getMembers()) {
                Element e = trees.getElement(new TreePath(getCurrentPath(), member));
                boolean constant = e != null && e.getModifiers().contains(Modifier.STATIC);
                if (member instanceof VariableTree) {
                    fields += constant ? 0 : 1;
                    Check.due("static and final: " + member,
                        !constant || e.getModifiers().contains(Modifier.FINAL) ? 1 : 0, 1);
                }
                if (tree.getSimpleName().contentEquals("SpaceHouse") && e != null) {
                    boolean face = e.getModifiers().contains(Modifier.PUBLIC);
                    boolean hidden = e.getModifiers().contains(Modifier.PRIVATE);
                    Check.due("public or private: " + e, face != hidden ? 1 : 0, 1);
                    if (e.getKind() == ElementKind.METHOD) {
                        String name = e.getSimpleName().toString();
                        Check.due("the face: " + e, face ? 1 : 0, FACE.contains(name) ? 1 : 0);
                    }
                }
            }
            Check.due("some twenty fields: " + tree.getSimpleName(), fields <= 20 ? 1 : 0, 1);
            return super.visitClass(tree, nothing);
        }

        @Override
        public Void visitMethod(MethodTree tree, Void nothing) {
            Element before = method;
            method = trees.getElement(getCurrentPath());
            calls.putIfAbsent(method, new HashSet<>());
            long last = lines.getLineNumber(positions.getEndPosition(unit, tree));
            long length = last - line(tree) + 1;
            Check.due("some sixty lines: " + method, length <= 60 ? 1 : 0, 1);
            Check.due("seven parameters: " + method, tree.getParameters().size() <= 7 ? 1 : 0, 1);
            super.visitMethod(tree, nothing);
            method = before;
            return null;
        }

        @Override
        public Void visitMethodInvocation(MethodInvocationTree tree, Void nothing) {
            note(element(tree.getMethodSelect()));
            return super.visitMethodInvocation(tree, nothing);
        }

        @Override
        public Void visitNewClass(NewClassTree tree, Void nothing) {
            note(trees.getElement(getCurrentPath()));
            return super.visitNewClass(tree, nothing);
        }

        private void note(Element called) {
            if (method != null && called != null) {
                calls.get(method).add(called);
                String name = called.getEnclosingElement().getSimpleName() + "."
                    + called.getSimpleName();
                boolean own = called.getEnclosingElement().toString().startsWith("SpaceHouse");
                Check.due("the library: " + name, own || LIBRARY.contains(name) ? 1 : 0, 1);
            }
        }

        @Override
        public Void visitBinary(BinaryTree tree, Void nothing) {
            boolean text = isText(tree.getLeftOperand()) || isText(tree.getRightOperand());
            Check.due("line " + line(tree) + " has operators over texts", text ? 1 : 0, 0);
            return super.visitBinary(tree, nothing);
        }

        private boolean isText(Tree tree) {
            if (tree instanceof IdentifierTree || tree instanceof MemberSelectTree) {
                Element e = element(tree);
                return e != null && e.asType().toString().equals("java.lang.String");
            }
            return tree.getKind() == Tree.Kind.STRING_LITERAL;
        }
    }
}
