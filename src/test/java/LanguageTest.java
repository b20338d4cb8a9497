import com.sun.source.tree.AssertTree;
import com.sun.source.tree.BinaryTree;
import com.sun.source.tree.ClassTree;
import com.sun.source.tree.CompilationUnitTree;
import com.sun.source.tree.ImportTree;
import com.sun.source.tree.LambdaExpressionTree;
import com.sun.source.tree.LiteralTree;
import com.sun.source.tree.MemberReferenceTree;
import com.sun.source.tree.MethodInvocationTree;
import com.sun.source.tree.MethodTree;
import com.sun.source.tree.NewClassTree;
import com.sun.source.tree.SynchronizedTree;
import com.sun.source.tree.ThrowTree;
import com.sun.source.tree.Tree;
import com.sun.source.tree.TryTree;
import com.sun.source.tree.VariableTree;
import com.sun.source.util.JavacTask;
import com.sun.source.util.SourcePositions;
import com.sun.source.util.TreePathScanner;
import com.sun.source.util.Trees;
import java.io.File;
import java.io.IOException;
import java.util.ArrayList;
import java.util.Arrays;
import java.util.HashMap;
import java.util.HashSet;
import java.util.LinkedHashSet;
import java.util.List;
import java.util.Map;
import java.util.Set;
import java.util.TreeSet;
import javax.lang.model.element.Element;
import javax.lang.model.element.ElementKind;
import javax.lang.model.element.ExecutableElement;
import javax.lang.model.element.Modifier;
import javax.tools.JavaCompiler;
import javax.tools.StandardJavaFileManager;
import javax.tools.ToolProvider;

/** The rules of LANGUAGE.md that a reading of the source can tell. */
public final class LanguageTest {
    private static final int CLASSES = 12, FIELDS = 20, LINES = 60, PARAMETERS = 7, DEPTH = 8;
    private static final Set<String> FACE = new HashSet<>(Arrays.asList("board", "ground", "height", "use", "plot", "feed",
        "end", "laws", "fault", "law", "worth", "cause", "may", "seeker", "told", "would", "year", "was", "went", "without",
        "withoutMore", "tram", "stop", "time", "way", "trip", "balance", "trips", "plan", "chosen", "build", "note", "known",
        "sheet", "lay", "draw", "count"));
    private static final Set<String> LIBRARY = new HashSet<>(Arrays.asList("java.lang.Object.<init>", "java.util.Arrays.fill",
        "java.lang.Math.abs", "java.lang.Math.max", "java.lang.Math.min", "java.lang.Math.floorDiv", "java.lang.Long.bitCount",
        "java.lang.String.length", "java.lang.String.charAt"));

    private final Set<String> faults = new TreeSet<>();
    private final Map<String, Set<String>> calls = new HashMap<>();
    private int classes;

    private static String nameOf(Element e) {
        return e.getEnclosingElement() + "." + (e.getKind() == ElementKind.CONSTRUCTOR ? "<init>" : e.getSimpleName());
    }

    /** The longest chain of methods that are open at once, from this one on. */
    private List<String> deepest(String method, Set<String> open) {
        if (!open.add(method)) {
            faults.add("recursion: " + method);
            return List.of();
        }
        List<String> most = List.of();
        for (String callee : calls.getOrDefault(method, Set.of())) {
            List<String> chain = deepest(callee, open);
            if (chain.size() > most.size()) most = chain;
        }
        open.remove(method);
        List<String> chain = new ArrayList<>(List.of(method));
        chain.addAll(most);
        return chain;
    }

    private final class Reading extends TreePathScanner<Void, Void> {
        final Trees trees;
        final CompilationUnitTree unit;
        String method = "";

        Reading(Trees trees, CompilationUnitTree unit) {
            this.trees = trees;
            this.unit = unit;
        }

        void fault(String what, Tree tree) {
            long at = trees.getSourcePositions().getStartPosition(unit, tree);
            faults.add(what + " in line " + unit.getLineMap().getLineNumber(at));
        }

        @Override
        public Void visitClass(ClassTree tree, Void v) {
            classes++;
            boolean outer = tree.getSimpleName().contentEquals("GrownTown");
            if (!outer && !tree.getModifiers().getFlags().contains(Modifier.STATIC)) fault("no static class", tree);
            int fields = 0;
            for (Tree member : tree.getMembers()) {
                if (!(member instanceof VariableTree field)) continue;
                Set<Modifier> flags = field.getModifiers().getFlags();
                boolean fixed = flags.contains(Modifier.STATIC);
                if (!fixed) fields++;
                if (fixed && !flags.contains(Modifier.FINAL)) fault("static state", member);
                if (outer && !flags.contains(Modifier.PRIVATE) && !fixed) fault("a field that is not private", member);
            }
            if (fields > FIELDS) fault(fields + " fields", tree);
            return super.visitClass(tree, v);
        }

        @Override
        public Void visitMethod(MethodTree tree, Void v) {
            Element element = trees.getElement(getCurrentPath());
            boolean face = element.getModifiers().contains(Modifier.PUBLIC);
            String name = tree.getName().toString();
            if (FACE.contains(name) != face && !name.equals("<init>")) fault("the name " + name, tree);
            if (tree.getParameters().size() > PARAMETERS) fault("parameters of " + name, tree);
            SourcePositions places = trees.getSourcePositions();
            long first = unit.getLineMap().getLineNumber(places.getStartPosition(unit, tree));
            long last = places.getEndPosition(unit, tree) < 0 ? first
                : unit.getLineMap().getLineNumber(places.getEndPosition(unit, tree));
            if (last - first + 1 > LINES) fault(name + " is long", tree);
            String outside = method;
            method = nameOf(element);
            super.visitMethod(tree, v);
            method = outside;
            return null;
        }

        private void call(Element element) {
            String name = nameOf(element);
            if (name.startsWith("GrownTown")) {
                calls.computeIfAbsent(method, m -> new LinkedHashSet<>()).add(name);
            } else if (!LIBRARY.contains(name)) {
                faults.add("outside the library: " + name);
            }
        }

        @Override
        public Void visitMethodInvocation(MethodInvocationTree tree, Void v) {
            if (trees.getElement(getCurrentPath()) instanceof ExecutableElement e) call(e);
            return super.visitMethodInvocation(tree, v);
        }

        @Override
        public Void visitNewClass(NewClassTree tree, Void v) {
            if (tree.getClassBody() != null) fault("an anonymous class", tree);
            call(trees.getElement(getCurrentPath()));
            return super.visitNewClass(tree, v);
        }

        @Override
        public Void visitBinary(BinaryTree tree, Void v) {
            boolean text = tree.getLeftOperand() instanceof LiteralTree l && l.getValue() instanceof String
                || tree.getRightOperand() instanceof LiteralTree r && r.getValue() instanceof String;
            if (text) fault("a text in a sum or comparison", tree);
            return super.visitBinary(tree, v);
        }

        @Override
        public Void visitImport(ImportTree tree, Void v) {
            if (!tree.getQualifiedIdentifier().toString().equals("java.util.Arrays")) fault("an import", tree);
            return super.visitImport(tree, v);
        }

        @Override
        public Void visitThrow(ThrowTree tree, Void v) {
            fault("throw", tree);
            return super.visitThrow(tree, v);
        }

        @Override
        public Void visitTry(TryTree tree, Void v) {
            fault("try", tree);
            return super.visitTry(tree, v);
        }

        @Override
        public Void visitAssert(AssertTree tree, Void v) {
            fault("assert", tree);
            return super.visitAssert(tree, v);
        }

        @Override
        public Void visitSynchronized(SynchronizedTree tree, Void v) {
            fault("synchronized", tree);
            return super.visitSynchronized(tree, v);
        }

        @Override
        public Void visitLambdaExpression(LambdaExpressionTree tree, Void v) {
            fault("a lambda", tree);
            return super.visitLambdaExpression(tree, v);
        }

        @Override
        public Void visitMemberReference(MemberReferenceTree tree, Void v) {
            fault("a method reference", tree);
            return super.visitMemberReference(tree, v);
        }
    }

    private void read(File file) throws IOException {
        JavaCompiler compiler = ToolProvider.getSystemJavaCompiler();
        StandardJavaFileManager files = compiler.getStandardFileManager(null, null, null);
        JavacTask task = (JavacTask) compiler.getTask(null, files, null, null, null, files.getJavaFileObjects(file));
        Iterable<? extends CompilationUnitTree> units = task.parse();
        task.analyze();
        for (CompilationUnitTree unit : units) new Reading(Trees.instance(task), unit).scan(unit, null);
        if (classes > CLASSES) faults.add(classes + " classes");
        for (String name : FACE) {
            List<String> chain = deepest("GrownTown." + name, new HashSet<>());
            if (chain.size() > DEPTH) faults.add("too deep: " + chain);
        }
    }

    public static void main(String[] args) throws IOException {
        LanguageTest test = new LanguageTest();
        test.read(new File("src/main/java/GrownTown.java"));
        test.faults.forEach(System.out::println);
        if (!test.faults.isEmpty()) System.exit(1);
        System.out.println(test.classes + " classes keep to the rules");
    }
}
