import com.sun.source.tree.AnnotatedTypeTree;
import com.sun.source.tree.AssertTree;
import com.sun.source.tree.BinaryTree;
import com.sun.source.tree.ClassTree;
import com.sun.source.tree.CompilationUnitTree;
import com.sun.source.tree.DoWhileLoopTree;
import com.sun.source.tree.ForLoopTree;
import com.sun.source.tree.ImportTree;
import com.sun.source.tree.LambdaExpressionTree;
import com.sun.source.tree.MemberReferenceTree;
import com.sun.source.tree.MethodInvocationTree;
import com.sun.source.tree.MethodTree;
import com.sun.source.tree.NewClassTree;
import com.sun.source.tree.SynchronizedTree;
import com.sun.source.tree.ThrowTree;
import com.sun.source.tree.Tree;
import com.sun.source.tree.TryTree;
import com.sun.source.tree.VariableTree;
import com.sun.source.tree.WhileLoopTree;
import com.sun.source.util.JavacTask;
import com.sun.source.util.SourcePositions;
import com.sun.source.util.Trees;
import java.io.File;
import java.io.IOException;
import java.lang.reflect.Constructor;
import java.lang.reflect.Field;
import java.lang.reflect.Method;
import java.lang.reflect.Modifier;
import java.util.ArrayList;
import java.util.Arrays;
import java.util.HashMap;
import java.util.HashSet;
import java.util.List;
import java.util.Map;
import java.util.Set;
import java.util.TreeSet;
import javax.lang.model.element.Element;
import javax.lang.model.element.ExecutableElement;
import javax.tools.JavaCompiler;
import javax.tools.StandardJavaFileManager;
import javax.tools.ToolProvider;
import com.sun.source.util.TreePath;
import com.sun.source.util.TreePathScanner;

/** The rules of LANGUAGE.md that a program can look at, looked at in the program's tree. */
public final class LanguageTest {
    private static final String FILE = "src/main/java/NineBoards.java";
    private static final Set<String> LIBRARY = new HashSet<>(Arrays.asList("java.lang.String.length",
        "java.lang.String.charAt", "java.lang.String.isEmpty", "java.lang.String.equals",
        "java.lang.String.substring", "java.lang.Math.max", "java.lang.Math.min", "java.lang.Math.floorDiv",
        "java.lang.Math.floorMod", "java.lang.Math.abs", "java.lang.System.arraycopy", "java.lang.Object.<init>"));

    private LanguageTest() {
    }

    public static void main(String[] args) throws IOException {
        face();
        JavaCompiler compiler = ToolProvider.getSystemJavaCompiler();
        StandardJavaFileManager files = compiler.getStandardFileManager(null, null, null);
        JavacTask task = (JavacTask) compiler.getTask(null, files, null, Arrays.asList("-proc:none"), null,
            files.getJavaFileObjects(new File(FILE)));
        for (CompilationUnitTree unit : task.parse()) {
            task.analyze();
            Look look = new Look(Trees.instance(task), unit);
            look.scan(unit, null);
            look.closing();
        }
        Checks.finish("LanguageTest");
    }

    private static void face() {
        List<String> want = Arrays.asList("int feed(int,int,int,int,int)", "boolean end(int)", "int lake()",
            "int fault(int)", "int has(int)", "int letter(int,int,int)", "int gate(int,int)", "long stream(int)",
            "long all(int)", "int village(int,int)", "int served(int)", "int act(int)", "int rest(int)",
            "boolean undo()", "int weather(int,int,boolean)", "int would(int,int)", "int need(int)",
            "int both(int,int)", "int until(int,boolean)", "int rows(int)", "int today(int,int)",
            "int selfish(int,int)", "int common(int,int)", "int share(int,int)", "int first(int,int)",
            "int steal(int)", "int thief()", "int beaver()", "boolean seed(int)", "long years(int,int,int,int)",
            "int image()", "int octet(int)", "boolean on()");
        Set<String> have = new TreeSet<>();
        Set<String> names = new HashSet<>();
        for (Method m : NineBoards.class.getDeclaredMethods()) {
            if (!Modifier.isPrivate(m.getModifiers())) {
                StringBuilder b = new StringBuilder();
                for (Class<?> c : m.getParameterTypes()) {
                    b.append(b.length() > 0 ? "," : "").append(c);
                }
                have.add(m.getReturnType() + " " + m.getName() + "(" + b + ")");
                names.add(m.getName());
                Checks.same("modifiers of " + m, m.getModifiers(), Modifier.PUBLIC);
            }
        }
        Checks.holds("the methods: " + have, have.equals(new TreeSet<>(want)));
        for (Method m : NineBoards.class.getDeclaredMethods()) {
            Checks.holds("no private one bears a public name: " + m,
                !Modifier.isPrivate(m.getModifiers()) || !names.contains(m.getName()));
        }
        Set<String> fields = new TreeSet<>();
        for (Field f : NineBoards.class.getDeclaredFields()) {
            if (!Modifier.isPrivate(f.getModifiers())) {
                fields.add(f.toString());
            }
        }
        Checks.holds("the constants: " + fields, fields.equals(new TreeSet<>(Arrays.asList(
            "public static final int NineBoards.NONE", "public static final int NineBoards.NOTHING"))));
        Constructor<?>[] made = NineBoards.class.getDeclaredConstructors();
        Checks.same("one constructor", made.length, 1);
        Checks.same("and it is public", made[0].getModifiers(), Modifier.PUBLIC);
        Checks.same("the class", NineBoards.class.getModifiers(), Modifier.PUBLIC | Modifier.FINAL);
        for (Class<?> c : NineBoards.class.getDeclaredClasses()) {
            Checks.holds("static and not public: " + c, Modifier.isStatic(c.getModifiers())
                && !Modifier.isPublic(c.getModifiers()) && !Modifier.isProtected(c.getModifiers()));
            for (Method m : c.getDeclaredMethods()) {
                Checks.holds("no name of the face: " + m, !names.contains(m.getName()));
            }
        }
    }

    /** Walks the tree once; what calls what is looked at in the end. */
    private static final class Look extends TreePathScanner<Void, Void> {
        private final Trees trees;
        private final CompilationUnitTree unit;
        private final SourcePositions places;
        private final Map<Element, Set<Element>> calls = new HashMap<>();
        private Element caller;
        private int classes;

        Look(Trees trees, CompilationUnitTree unit) {
            this.trees = trees;
            this.unit = unit;
            this.places = trees.getSourcePositions();
        }

        private long line(long place) {
            return unit.getLineMap().getLineNumber(place);
        }

        private void never(String what, Tree tree) {
            Checks.holds("line " + line(places.getStartPosition(unit, tree)) + " has " + what, false);
        }

        @Override
        public Void visitImport(ImportTree tree, Void v) {
            never("an import", tree);
            return super.visitImport(tree, v);
        }

        @Override
        public Void visitThrow(ThrowTree tree, Void v) {
            never("throw", tree);
            return super.visitThrow(tree, v);
        }

        @Override
        public Void visitTry(TryTree tree, Void v) {
            never("try", tree);
            return super.visitTry(tree, v);
        }

        @Override
        public Void visitSynchronized(SynchronizedTree tree, Void v) {
            never("synchronized", tree);
            return super.visitSynchronized(tree, v);
        }

        @Override
        public Void visitAssert(AssertTree tree, Void v) {
            never("assert", tree);
            return super.visitAssert(tree, v);
        }

        @Override
        public Void visitLambdaExpression(LambdaExpressionTree tree, Void v) {
            never("a lambda", tree);
            return super.visitLambdaExpression(tree, v);
        }

        @Override
        public Void visitMemberReference(MemberReferenceTree tree, Void v) {
            never("a method reference", tree);
            return super.visitMemberReference(tree, v);
        }

        @Override
        public Void visitAnnotatedType(AnnotatedTypeTree tree, Void v) {
            never("an annotation", tree);
            return super.visitAnnotatedType(tree, v);
        }

        @Override
        public Void visitBinary(BinaryTree tree, Void v) {
            if (tree.getKind() == Tree.Kind.PLUS) {
                String type = String.valueOf(trees.getTypeMirror(getCurrentPath()));
                Checks.holds("no texts joined by +: " + tree, !type.equals("java.lang.String"));
            }
            return super.visitBinary(tree, v);
        }

        @Override
        public Void visitWhileLoop(WhileLoopTree tree, Void v) {
            Checks.holds("a while with a bound: " + tree.getCondition(), tree.getCondition().toString().contains("<"));
            return super.visitWhileLoop(tree, v);
        }

        @Override
        public Void visitDoWhileLoop(DoWhileLoopTree tree, Void v) {
            never("do", tree);
            return super.visitDoWhileLoop(tree, v);
        }

        @Override
        public Void visitForLoop(ForLoopTree tree, Void v) {
            String bound = String.valueOf(tree.getCondition());
            Checks.holds("a for with a bound: " + bound, bound.contains("<") && tree.getUpdate().size() == 1);
            return super.visitForLoop(tree, v);
        }

        @Override
        public Void visitClass(ClassTree tree, Void v) {
            classes++;
            int fields = 0;
            for (Tree member : tree.getMembers()) {
                if (member instanceof VariableTree) {
                    String flags = ((VariableTree) member).getModifiers().getFlags().toString();
                    boolean constant = flags.contains("static");
                    Checks.holds("static is final: " + member, !constant || flags.contains("final"));
                    fields += constant ? 0 : 1;
                }
                Checks.holds("no initialiser block", member.getKind() != Tree.Kind.BLOCK);
            }
            Checks.holds("fields of " + tree.getSimpleName() + ": " + fields, fields <= 20);
            return super.visitClass(tree, v);
        }

        @Override
        public Void visitMethod(MethodTree tree, Void v) {
            long lines = line(places.getEndPosition(unit, tree)) - line(places.getStartPosition(unit, tree)) + 1;
            Checks.holds(tree.getName() + " has " + lines + " lines", lines <= 60);
            Checks.holds(tree.getName() + " takes at most seven", tree.getParameters().size() <= 7);
            Element outer = caller;
            caller = trees.getElement(getCurrentPath());
            calls.putIfAbsent(caller, new HashSet<>());
            super.visitMethod(tree, v);
            caller = outer;
            return null;
        }

        private void called(TreePath path) {
            Element callee = trees.getElement(path);
            if (callee instanceof ExecutableElement && caller != null) {
                String name = callee.getEnclosingElement() + "." + callee.getSimpleName();
                if (name.startsWith("NineBoards")) {
                    calls.get(caller).add(callee);
                } else {
                    Checks.holds("of the library alone what is listed: " + name, LIBRARY.contains(name));
                }
            }
        }

        @Override
        public Void visitMethodInvocation(MethodInvocationTree tree, Void v) {
            called(getCurrentPath());
            return super.visitMethodInvocation(tree, v);
        }

        @Override
        public Void visitNewClass(NewClassTree tree, Void v) {
            Checks.holds("no class without a name", tree.getClassBody() == null);
            called(getCurrentPath());
            return super.visitNewClass(tree, v);
        }

        void closing() {
            Checks.holds(classes + " classes", classes <= 12);
            Map<Element, Set<Element>> reach = new HashMap<>();
            for (Element e : calls.keySet()) {
                Set<Element> all = new HashSet<>();
                List<Element> open = new ArrayList<>(calls.get(e));
                while (!open.isEmpty()) {
                    Element next = open.remove(open.size() - 1);
                    if (all.add(next)) {
                        open.addAll(calls.getOrDefault(next, new HashSet<>()));
                    }
                }
                reach.put(e, all);
            }
            for (Element e : calls.keySet()) {
                Checks.holds(e + " goes " + depth(e, reach) + " deep", depth(e, reach) <= 8);
            }
        }

        /** The longest way down; those that call one another count once together. */
        private int depth(Element e, Map<Element, Set<Element>> reach) {
            int most = 0;
            for (Element member : reach.keySet()) {
                boolean together = member.equals(e)
                    || reach.get(e).contains(member) && reach.get(member).contains(e);
                if (together) {
                    for (Element next : calls.get(member)) {
                        boolean back = next.equals(e) || reach.getOrDefault(next, new HashSet<>()).contains(e);
                        if (!back) {
                            most = Math.max(most, depth(next, reach));
                        }
                    }
                }
            }
            return most + 1;
        }
    }
}
