import com.sun.source.tree.AssertTree;
import com.sun.source.tree.ClassTree;
import com.sun.source.tree.CompilationUnitTree;
import com.sun.source.tree.LambdaExpressionTree;
import com.sun.source.tree.MemberReferenceTree;
import com.sun.source.tree.MethodInvocationTree;
import com.sun.source.tree.MethodTree;
import com.sun.source.tree.NewClassTree;
import com.sun.source.tree.SynchronizedTree;
import com.sun.source.tree.ThrowTree;
import com.sun.source.tree.Tree;
import com.sun.source.tree.TryTree;
import com.sun.source.tree.VariableTree;
import com.sun.source.tree.BlockTree;
import com.sun.source.util.JavacTask;
import com.sun.source.util.SourcePositions;
import com.sun.source.util.TreePath;
import com.sun.source.util.TreePathScanner;
import com.sun.source.util.Trees;
import java.io.File;
import java.util.ArrayList;
import java.util.HashMap;
import java.util.HashSet;
import java.util.List;
import java.util.Map;
import java.util.Set;
import java.util.TreeMap;
import java.util.TreeSet;
import javax.lang.model.element.Element;
import javax.lang.model.element.ElementKind;
import javax.lang.model.element.ExecutableElement;
import javax.lang.model.element.Modifier;
import javax.lang.model.element.TypeElement;
import javax.tools.JavaCompiler;
import javax.tools.StandardJavaFileManager;
import javax.tools.ToolProvider;

/** Rules of LANGUAGE.md that the compiler's own tree can show. */
public final class LanguageTest {
    private static final Set<String> FACE = Set.of("car", "carIs", "mark", "shape", "crash", "tells", "crashIs", "zone",
            "rate", "worth", "back", "feed", "treaty", "force", "says", "enter", "entryIs", "as", "late", "position",
            "held", "payments", "draws", "panel", "like", "ring", "rings", "core", "chain", "voice", "trace", "sheet",
            "put", "move", "image", "restore", "tell", "check", "count", "told");
    private static final Set<String> LIBRARY = Set.of("java.util.Arrays.fill", "java.lang.System.arraycopy",
            "java.lang.Math.max", "java.lang.Math.min", "java.lang.Math.abs", "java.lang.Integer.bitCount",
            "java.lang.Integer.numberOfTrailingZeros", "Array.clone", "java.lang.Object.<init>");

    private final List<String> faults = new ArrayList<>();
    private final Map<String, Set<String>> calls = new TreeMap<>();
    private final Set<String> publicNames = new TreeSet<>();
    private final Set<String> otherNames = new TreeSet<>();
    private int classes;

    private void fault(String what) {
        faults.add(what);
    }

    private final class Scan extends TreePathScanner<Void, String> {
        private final Trees trees;
        private final SourcePositions places;
        private final CompilationUnitTree unit;

        Scan(Trees trees, CompilationUnitTree unit) {
            this.trees = trees;
            this.places = trees.getSourcePositions();
            this.unit = unit;
        }

        private String at(Tree t) {
            return "line " + unit.getLineMap().getLineNumber(places.getStartPosition(unit, t));
        }

        private boolean outer(Element e) {
            return e.getEnclosingElement().toString().equals("KnockTable");
        }

        @Override
        public Void visitClass(ClassTree c, String in) {
            classes++;
            Element e = trees.getElement(getCurrentPath());
            Tree.Kind above = getCurrentPath().getParentPath().getLeaf().getKind();
            if (above == Tree.Kind.CLASS && !e.getModifiers().contains(Modifier.STATIC)) {
                fault(at(c) + ": a class inside that isn't static");
            }
            if (above != Tree.Kind.CLASS && above != Tree.Kind.COMPILATION_UNIT) {
                fault(at(c) + ": a local class");
            }
            if (above == Tree.Kind.CLASS && (e.getModifiers().contains(Modifier.PUBLIC) || e.getModifiers().contains(Modifier.PROTECTED))) {
                fault(at(c) + ": a class inside that is public");
            }
            int fields = 0;
            for (Tree m : c.getMembers()) {
                if (m instanceof VariableTree v && !v.getModifiers().getFlags().contains(Modifier.STATIC)) {
                    fields++;
                }
                if (m instanceof BlockTree) {
                    fault(at(m) + ": an initialiser block");
                }
            }
            if (fields > 20) {
                fault(at(c) + ": " + fields + " fields");
            }
            return super.visitClass(c, in);
        }

        @Override
        public Void visitMethod(MethodTree m, String in) {
            ExecutableElement e = (ExecutableElement) trees.getElement(getCurrentPath());
            boolean open = e.getModifiers().contains(Modifier.PUBLIC);
            if (outer(e) && e.getKind() == ElementKind.METHOD) {
                if (open) {
                    publicNames.add(m.getName().toString());
                } else if (!e.getModifiers().contains(Modifier.PRIVATE)) {
                    fault(at(m) + ": a method that is neither public nor private");
                }
            }
            if (!open && e.getKind() == ElementKind.METHOD) {
                otherNames.add(m.getName().toString());
            }
            if (m.getParameters().size() > 7) {
                fault(at(m) + ": more than seven parameters");
            }
            long first = unit.getLineMap().getLineNumber(places.getStartPosition(unit, m));
            long last = unit.getLineMap().getLineNumber(places.getEndPosition(unit, m));
            if (last - first >= 60) {
                fault(at(m) + ": a method of " + (last - first + 1) + " lines");
            }
            String name = nameOf(e);
            calls.computeIfAbsent(name, k -> new TreeSet<>());
            return super.visitMethod(m, name);
        }

        private String nameOf(ExecutableElement e) {
            return e.getEnclosingElement() + "." + e.getSimpleName();
        }

        private void called(Tree t, String in) {
            Element e = trees.getElement(getCurrentPath());
            if (!(e instanceof ExecutableElement x)) {
                fault(at(t) + ": an unknown call");
                return;
            }
            String name = nameOf(x);
            if (name.startsWith("KnockTable")) {
                calls.computeIfAbsent(in == null ? "init" : in, k -> new TreeSet<>()).add(name);
            } else if (!LIBRARY.contains(name)) {
                fault(at(t) + ": " + name + " is not in the library");
            }
        }

        @Override
        public Void visitMethodInvocation(MethodInvocationTree t, String in) {
            called(t, in);
            return super.visitMethodInvocation(t, in);
        }

        @Override
        public Void visitNewClass(NewClassTree t, String in) {
            if (t.getClassBody() != null) {
                fault(at(t) + ": an anonymous class");
            }
            called(t, in);
            return super.visitNewClass(t, in);
        }

        @Override
        public Void visitVariable(VariableTree v, String in) {
            Element e = trees.getElement(new TreePath(getCurrentPath().getParentPath(), v));
            Set<Modifier> flags = v.getModifiers().getFlags();
            if (flags.contains(Modifier.STATIC) && !flags.contains(Modifier.FINAL)) {
                fault(at(v) + ": a static field that isn't final");
            }
            if (e != null && e.getKind() == ElementKind.FIELD && outer(e) && !flags.contains(Modifier.PRIVATE)) {
                fault(at(v) + ": a field of the face");
            }
            String type = e == null ? "int" : e.asType().toString();
            String base = type.replace("[]", "");
            if (!Set.of("int", "long", "boolean", "char", "byte", "short").contains(base) && !base.startsWith("KnockTable.")) {
                fault(at(v) + ": type " + type);
            }
            return super.visitVariable(v, in);
        }

        @Override
        public Void visitThrow(ThrowTree t, String in) {
            fault(at(t) + ": throw");
            return super.visitThrow(t, in);
        }

        @Override
        public Void visitTry(TryTree t, String in) {
            fault(at(t) + ": try");
            return super.visitTry(t, in);
        }

        @Override
        public Void visitSynchronized(SynchronizedTree t, String in) {
            fault(at(t) + ": synchronized");
            return super.visitSynchronized(t, in);
        }

        @Override
        public Void visitAssert(AssertTree t, String in) {
            fault(at(t) + ": assert");
            return super.visitAssert(t, in);
        }

        @Override
        public Void visitLambdaExpression(LambdaExpressionTree t, String in) {
            fault(at(t) + ": a lambda");
            return super.visitLambdaExpression(t, in);
        }

        @Override
        public Void visitMemberReference(MemberReferenceTree t, String in) {
            fault(at(t) + ": a method reference");
            return super.visitMemberReference(t, in);
        }
    }

    /** All methods that one leads to. */
    private Set<String> reach(String from) {
        Set<String> seen = new HashSet<>();
        List<String> open = new ArrayList<>(List.of(from));
        while (!open.isEmpty()) {
            for (String next : calls.getOrDefault(open.remove(open.size() - 1), Set.of())) {
                if (seen.add(next)) {
                    open.add(next);
                }
            }
        }
        return seen;
    }

    /** The longest way down; a group of methods that call one another counts as one. */
    private int depth(String from, Map<String, Set<String>> reach, Map<String, Integer> known) {
        if (known.containsKey(from)) {
            return known.get(from);
        }
        int most = 0;
        Set<String> group = new HashSet<>();
        group.add(from);
        for (String other : reach.get(from)) {
            if (reach.get(other).contains(from)) {
                group.add(other);
            }
        }
        for (String member : group) {
            for (String next : calls.getOrDefault(member, Set.of())) {
                if (!group.contains(next)) {
                    most = Math.max(most, depth(next, reach, known));
                }
            }
        }
        known.put(from, 1 + most);
        return 1 + most;
    }

    private void judge() {
        if (!publicNames.equals(FACE)) {
            fault("the face is " + publicNames);
        }
        for (String name : otherNames) {
            if (FACE.contains(name)) {
                fault("a method that isn't public has the public name " + name);
            }
        }
        if (classes > 12) {
            fault(classes + " classes");
        }
        Map<String, Set<String>> reach = new HashMap<>();
        for (String m : calls.keySet()) {
            reach.put(m, reach(m));
        }
        calls.keySet().forEach(m -> reach(m).forEach(n -> reach.computeIfAbsent(n, this::reach)));
        for (String m : calls.keySet()) {
            int depth = depth(m, reach, new HashMap<>());
            if (depth > 8) {
                fault(m + " goes " + depth + " calls deep");
            }
        }
    }

    public static void main(String[] args) throws Exception {
        JavaCompiler compiler = ToolProvider.getSystemJavaCompiler();
        LanguageTest test = new LanguageTest();
        File source = new File("src/main/java/KnockTable.java");
        for (String line : java.nio.file.Files.readAllLines(source.toPath())) {
            if (line.chars().anyMatch(c -> c > 126)) {
                test.fault("a sign beyond 126: " + line);
            }
        }
        try (StandardJavaFileManager files = compiler.getStandardFileManager(null, null, null)) {
            JavacTask task = (JavacTask) compiler.getTask(null, files, null, List.of("-proc:none"), null, files.getJavaFileObjects(source));
            Iterable<? extends CompilationUnitTree> units = task.parse();
            for (Element e : task.analyze()) {
                if (e instanceof TypeElement t && t.getNestingKind().isNested() && !t.getModifiers().contains(Modifier.STATIC)) {
                    test.fault(t + " isn't static");
                }
            }
            for (CompilationUnitTree unit : units) {
                test.new Scan(Trees.instance(task), unit).scan(unit, null);
            }
        }
        test.judge();
        test.faults.forEach(System.out::println);
        System.out.println("LanguageTest: " + test.calls.size() + " methods, " + test.faults.size() + " faults");
        if (!test.faults.isEmpty()) {
            System.exit(1);
        }
    }
}
