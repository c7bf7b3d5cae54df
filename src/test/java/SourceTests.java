import com.sun.source.tree.AssertTree;
import com.sun.source.tree.BinaryTree;
import com.sun.source.tree.ClassTree;
import com.sun.source.tree.CompilationUnitTree;
import com.sun.source.tree.ForLoopTree;
import com.sun.source.tree.InstanceOfTree;
import com.sun.source.tree.LambdaExpressionTree;
import com.sun.source.tree.MemberReferenceTree;
import com.sun.source.tree.MethodInvocationTree;
import com.sun.source.tree.MethodTree;
import com.sun.source.tree.NewClassTree;
import com.sun.source.tree.SynchronizedTree;
import com.sun.source.tree.ThrowTree;
import com.sun.source.tree.Tree;
import com.sun.source.tree.TryTree;
import com.sun.source.tree.VariableTree;
import com.sun.source.util.JavacTask;
import com.sun.source.util.TreePath;
import com.sun.source.util.TreePathScanner;
import com.sun.source.util.Trees;
import java.io.File;
import java.util.ArrayList;
import java.util.LinkedHashSet;
import java.util.List;
import java.util.Map;
import java.util.Set;
import java.util.TreeMap;
import java.util.TreeSet;
import javax.lang.model.element.Element;
import javax.lang.model.element.ExecutableElement;
import javax.lang.model.element.Modifier;
import javax.lang.model.element.TypeElement;
import javax.lang.model.type.TypeMirror;
import javax.tools.JavaCompiler;
import javax.tools.StandardJavaFileManager;
import javax.tools.ToolProvider;

/** The rules of LANGUAGE.md that need the program as the compiler understands it: who calls whom, of which types things are. */
public final class SourceTests {
    private static final String SOURCE = "src/main/java/StonesToCome.java";
    private static final int DEEPEST = 8, LONGEST = 60;
    private static final Set<String> LIBRARY = Set.of("String.length()", "String.charAt(int)", "String.isEmpty()",
        "String.equals(java.lang.Object)", "String.indexOf(int)", "String.substring(int)", "String.substring(int,int)",
        "String.toCharArray()", "System.arraycopy(java.lang.Object,int,java.lang.Object,int,int)", "Arrays.copyOf(int[],int)",
        "Arrays.copyOfRange(int[],int,int)", "Arrays.fill(int[],int)", "Arrays.fill(int[],int,int,int)", "Math.max(int,int)",
        "Math.min(int,int)", "Math.abs(int)", "Integer.bitCount(int)", "Object.Object()");
    private static int wrong = 0;

    private static void must(boolean holds, String what) {
        if (!holds) {
            wrong++;
            System.out.println("broken: " + what);
        }
    }

    public static void main(String[] args) throws Exception {
        JavaCompiler compiler = ToolProvider.getSystemJavaCompiler();
        try (StandardJavaFileManager files = compiler.getStandardFileManager(null, null, null)) {
            JavacTask task = (JavacTask) compiler.getTask(null, files, null, List.of("-proc:none"), null,
                files.getJavaFileObjects(new File(SOURCE)));
            CompilationUnitTree unit = task.parse().iterator().next();
            task.analyze();
            Reader reader = new Reader(Trees.instance(task), unit);
            reader.scan(unit, null);
            reader.depths();
        }
        System.out.println(wrong == 0 ? "all rules of the source are kept" : wrong + " rules of the source are broken");
        if (wrong != 0) System.exit(1);
    }

    private static final class Reader extends TreePathScanner<Void, Void> {
        private final Trees trees;
        private final CompilationUnitTree unit;
        private final Map<String, Set<String>> calls = new TreeMap<>();
        private final Set<String> face = new TreeSet<>();
        private String current = "";

        Reader(Trees trees, CompilationUnitTree unit) {
            this.trees = trees;
            this.unit = unit;
        }

        private long line(long position) {
            return unit.getLineMap().getLineNumber(position);
        }

        private long firstLine(Tree t) {
            return line(trees.getSourcePositions().getStartPosition(unit, t));
        }

        private void refuse(Tree t, String why) {
            must(false, "line " + firstLine(t) + ": " + why);
        }

        private static String nameOf(Element e) {
            return ((TypeElement) e.getEnclosingElement()).getQualifiedName() + "." + e;
        }

        private static boolean isOwn(Element e) {
            return ((TypeElement) e.getEnclosingElement()).getQualifiedName().toString().startsWith("StonesToCome");
        }

        private void called(Tree t, Element e) {
            if (!(e instanceof ExecutableElement)) {
                refuse(t, "what is called here?");
            } else if (isOwn(e)) {
                calls.computeIfAbsent(current, k -> new TreeSet<>()).add(nameOf(e));
            } else {
                String name = e.getEnclosingElement().getSimpleName() + "." + (e.getSimpleName().contentEquals("<init>") ? "Object()" : e);
                must(LIBRARY.contains(name), "rule 4, line " + firstLine(t) + ": " + name);
            }
        }

        @Override
        public Void visitMethod(MethodTree m, Void v) {
            Element e = trees.getElement(getCurrentPath());
            current = nameOf(e);
            calls.computeIfAbsent(current, k -> new TreeSet<>());
            if (e.getModifiers().contains(Modifier.PUBLIC)) face.add(current);
            must(m.getParameters().size() <= 7, "rule 11, seven parameters: " + current);
            long lines = line(trees.getSourcePositions().getEndPosition(unit, m)) - firstLine(m) + 1;
            must(lines <= LONGEST, "rule 11, " + lines + " lines: " + current);
            super.visitMethod(m, v);
            current = "";
            return null;
        }

        @Override
        public Void visitMethodInvocation(MethodInvocationTree t, Void v) {
            called(t, trees.getElement(new TreePath(getCurrentPath(), t.getMethodSelect())));
            return super.visitMethodInvocation(t, v);
        }

        @Override
        public Void visitNewClass(NewClassTree t, Void v) {
            if (t.getClassBody() != null) refuse(t, "rule 2, an anonymous class");
            called(t, trees.getElement(getCurrentPath()));
            return super.visitNewClass(t, v);
        }

        @Override
        public Void visitClass(ClassTree t, Void v) {
            Tree.Kind around = getCurrentPath().getParentPath().getLeaf().getKind();
            if (around != Tree.Kind.COMPILATION_UNIT && around != Tree.Kind.CLASS) refuse(t, "rule 2, a local class");
            return super.visitClass(t, v);
        }

        @Override
        public Void visitVariable(VariableTree t, Void v) {
            TypeMirror type = trees.getTypeMirror(new TreePath(getCurrentPath(), t.getType()));
            String name = type.toString();
            boolean known = name.matches("(int|long|short|byte|char|boolean)(\\[\\]){0,2}|java\\.lang\\.String"
                + "|StonesToCome\\.\\w+(\\[\\])?");
            if (!known) refuse(t, "rule 3, the type " + name);
            return super.visitVariable(t, v);
        }

        private boolean isText(Tree t) {
            TypeMirror type = trees.getTypeMirror(new TreePath(getCurrentPath(), t));
            return type != null && (type.toString().equals("java.lang.String") || type.toString().equals("java.lang.Integer"));
        }

        @Override
        public Void visitBinary(BinaryTree t, Void v) {
            if (isText(t.getLeftOperand()) || isText(t.getRightOperand())) refuse(t, "rules 6, 10: a sign between texts");
            return super.visitBinary(t, v);
        }

        @Override
        public Void visitForLoop(ForLoopTree t, Void v) {
            if (t.getCondition() == null) refuse(t, "rule 9, a loop without an end");
            return super.visitForLoop(t, v);
        }

        @Override
        public Void visitLambdaExpression(LambdaExpressionTree t, Void v) {
            refuse(t, "rule 2, a lambda");
            return null;
        }

        @Override
        public Void visitMemberReference(MemberReferenceTree t, Void v) {
            refuse(t, "rule 2, a method reference");
            return null;
        }

        @Override
        public Void visitThrow(ThrowTree t, Void v) {
            refuse(t, "rule 6, throw");
            return null;
        }

        @Override
        public Void visitTry(TryTree t, Void v) {
            refuse(t, "rule 6, try");
            return null;
        }

        @Override
        public Void visitSynchronized(SynchronizedTree t, Void v) {
            refuse(t, "rule 6, synchronized");
            return null;
        }

        @Override
        public Void visitAssert(AssertTree t, Void v) {
            refuse(t, "rule 6, assert");
            return null;
        }

        @Override
        public Void visitInstanceOf(InstanceOfTree t, Void v) {
            TypeMirror type = trees.getTypeMirror(new TreePath(getCurrentPath(), t.getExpression()));
            if (!String.valueOf(type).startsWith("StonesToCome")) refuse(t, "rule 6, instanceof of another's class");
            return super.visitInstanceOf(t, v);
        }

        /** The longest row of calls in which none comes twice, the one of the face being the first. */
        void depths() {
            must(face.size() == 46, "the face has 45 methods and a constructor, seen are " + face.size());
            for (String first : face) {
                List<String> longest = longest(first, new LinkedHashSet<>());
                must(longest.size() <= DEEPEST, "rule 11, " + longest.size() + " calls deep: " + longest);
            }
        }

        private List<String> longest(String from, LinkedHashSet<String> open) {
            open.add(from);
            List<String> best = new ArrayList<>(open);
            for (String next : calls.getOrDefault(from, Set.of())) {
                if (open.contains(next)) continue;
                List<String> found = longest(next, open);
                if (found.size() > best.size()) best = found;
            }
            open.remove(from);
            return best;
        }
    }
}
