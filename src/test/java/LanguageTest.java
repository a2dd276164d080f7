import com.sun.source.tree.AssertTree;
import com.sun.source.tree.BinaryTree;
import com.sun.source.tree.ClassTree;
import com.sun.source.tree.CompilationUnitTree;
import com.sun.source.tree.LambdaExpressionTree;
import com.sun.source.tree.MemberReferenceTree;
import com.sun.source.tree.MethodInvocationTree;
import com.sun.source.tree.MethodTree;
import com.sun.source.tree.NewClassTree;
import com.sun.source.tree.PrimitiveTypeTree;
import com.sun.source.tree.SynchronizedTree;
import com.sun.source.tree.ThrowTree;
import com.sun.source.tree.Tree;
import com.sun.source.tree.TryTree;
import com.sun.source.tree.VariableTree;
import com.sun.source.util.JavacTask;
import com.sun.source.util.TreePathScanner;
import com.sun.source.util.Trees;
import java.lang.reflect.Constructor;
import java.lang.reflect.Field;
import java.lang.reflect.Method;
import java.lang.reflect.Modifier;
import java.nio.file.Path;
import java.util.ArrayDeque;
import java.util.Deque;
import java.util.HashMap;
import java.util.HashSet;
import java.util.LinkedHashSet;
import java.util.List;
import java.util.Map;
import java.util.Set;
import java.util.TreeSet;
import javax.lang.model.element.Element;
import javax.lang.model.element.ElementKind;
import javax.lang.model.type.TypeKind;
import javax.tools.JavaCompiler;
import javax.tools.StandardJavaFileManager;
import javax.tools.ToolProvider;

/** The rules of LANGUAGE.md that can be looked up in the source; run from the project's folder. */
public final class LanguageTest {
    private static final Set<String> LIBRARY = Set.of("java.lang.String.length", "java.lang.String.charAt", "java.lang.Math.floorMod",
            "java.lang.System.arraycopy", "java.util.Arrays.fill", "java.lang.Object.<init>");
    private static final int LINES_MOST = 60;
    private static final int PARAMETERS_MOST = 7;
    private static final int CLASSES_MOST = 12;
    private static final int FIELDS_MOST = 20;
    private static final int DEPTH_MOST = 8;
    private static final Set<String> FACE = new TreeSet<>(Set.of("int NONE", "EchoStudio()", "int feed(int,int,int,int,int)", "int back(int)",
            "int read()", "int play(int)", "int run(int)", "int act(int,int,int,int,int)", "int loop(int,int)", "long cell(int,int)",
            "int head(int,int)", "long dial(int)", "int slot(int,int)", "int player(int,int)", "int count(int)", "int met(int,int)",
            "long peak(int)"));

    private static int wrong = 0;

    public static void main(String[] args) throws Exception {
        face();
        source();
        if (wrong > 0) {
            System.exit(1);
        }
        System.out.println("the source keeps to the rules that are looked up");
    }

    private static void complain(String what) {
        wrong++;
        System.out.println(what);
    }

    private static void face() {
        Set<String> found = new TreeSet<>();
        Set<String> names = new HashSet<>();
        for (Field field : EchoStudio.class.getDeclaredFields()) {
            if (!Modifier.isPrivate(field.getModifiers())) {
                found.add(field.getType() + " " + field.getName());
            }
        }
        for (Constructor<?> constructor : EchoStudio.class.getDeclaredConstructors()) {
            found.add("EchoStudio" + parameters(constructor.getParameterTypes()));
        }
        for (Method method : EchoStudio.class.getDeclaredMethods()) {
            if (!Modifier.isPrivate(method.getModifiers())) {
                found.add(method.getReturnType() + " " + method.getName() + parameters(method.getParameterTypes()));
                names.add(method.getName());
            }
        }
        if (!found.equals(FACE)) {
            complain("rule 1: the face is " + found);
        }
        for (Class<?> inside : EchoStudio.class.getDeclaredClasses()) {
            for (Method method : inside.getDeclaredMethods()) {
                if (names.contains(method.getName())) {
                    complain("rule 1: " + method + " bears the name of a public method");
                }
            }
            if (!Modifier.isStatic(inside.getModifiers())) {
                complain("rule 2: " + inside + " is not static");
            }
        }
    }

    private static String parameters(Class<?>[] types) {
        StringBuilder all = new StringBuilder("(");
        for (Class<?> type : types) {
            all.append(all.length() > 1 ? "," : "").append(type);
        }
        return all.append(")").toString();
    }

    private static void source() throws Exception {
        JavaCompiler compiler = ToolProvider.getSystemJavaCompiler();
        StandardJavaFileManager files = compiler.getStandardFileManager(null, null, null);
        JavacTask task = (JavacTask) compiler.getTask(null, files, null, List.of("-proc:none"), null,
                files.getJavaFileObjects(Path.of("src/main/java/EchoStudio.java")));
        Rules rules = new Rules(Trees.instance(task));
        for (CompilationUnitTree unit : task.parse()) {
            task.analyze();
            rules.unit = unit;
            rules.scan(unit, null);
        }
        if (rules.classes > CLASSES_MOST) {
            complain("rule 11: " + rules.classes + " classes");
        }
        rules.depths();
    }

    private static final class Rules extends TreePathScanner<Void, Void> {
        private final Trees trees;
        private final Map<String, Set<String>> calls = new HashMap<>();
        private final Deque<String> methods = new ArrayDeque<>();
        private CompilationUnitTree unit;
        private int classes = 0;

        Rules(Trees trees) {
            this.trees = trees;
        }

        private long line(long position) {
            return unit.getLineMap().getLineNumber(position);
        }

        private void outside(String rule, Tree tree) {
            complain("line " + line(trees.getSourcePositions().getStartPosition(unit, tree)) + ": " + rule);
        }

        private static String name(Element element) {
            return element.getEnclosingElement() + "." + element.getSimpleName();
        }

        @Override
        public Void visitClass(ClassTree tree, Void nothing) {
            classes++;
            int fields = 0;
            for (Tree member : tree.getMembers()) {
                if (member instanceof VariableTree field && !field.getModifiers().getFlags()
                        .contains(javax.lang.model.element.Modifier.STATIC)) {
                    fields++;
                }
                if (member.getKind() == Tree.Kind.BLOCK) {
                    outside("rule 5: an initialiser block", member);
                }
            }
            if (fields > FIELDS_MOST) {
                outside("rule 11: " + fields + " fields", tree);
            }
            return super.visitClass(tree, nothing);
        }

        @Override
        public Void visitMethod(MethodTree tree, Void nothing) {
            long from = line(trees.getSourcePositions().getStartPosition(unit, tree));
            long to = line(trees.getSourcePositions().getEndPosition(unit, tree));
            if (to - from + 1 > LINES_MOST) {
                outside("rule 11: " + tree.getName() + " has " + (to - from + 1) + " lines", tree);
            }
            if (tree.getParameters().size() > PARAMETERS_MOST) {
                outside("rule 11: parameters", tree);
            }
            methods.push(name(trees.getElement(getCurrentPath())));
            calls.putIfAbsent(methods.peek(), new LinkedHashSet<>());
            super.visitMethod(tree, nothing);
            methods.pop();
            return null;
        }

        @Override
        public Void visitVariable(VariableTree tree, Void nothing) {
            Element element = trees.getElement(getCurrentPath());
            Set<javax.lang.model.element.Modifier> flags = tree.getModifiers().getFlags();
            if (element.getKind() == ElementKind.FIELD && flags.contains(javax.lang.model.element.Modifier.STATIC)
                    && !flags.contains(javax.lang.model.element.Modifier.FINAL)) {
                outside("rule 5: a static field that is not final", tree);
            }
            return super.visitVariable(tree, nothing);
        }

        private void called(Tree tree) {
            Element element = trees.getElement(getCurrentPath());
            String name = name(element);
            if (name.startsWith("EchoStudio")) {
                if (!methods.isEmpty()) {
                    calls.get(methods.peek()).add(name);
                }
            } else if (!LIBRARY.contains(name)) {
                outside("rule 4: " + name, tree);
            }
        }

        @Override
        public Void visitMethodInvocation(MethodInvocationTree tree, Void nothing) {
            called(tree);
            return super.visitMethodInvocation(tree, nothing);
        }

        @Override
        public Void visitNewClass(NewClassTree tree, Void nothing) {
            called(tree);
            return super.visitNewClass(tree, nothing);
        }

        @Override
        public Void visitPrimitiveType(PrimitiveTypeTree tree, Void nothing) {
            if (tree.getPrimitiveTypeKind() == TypeKind.DOUBLE || tree.getPrimitiveTypeKind() == TypeKind.FLOAT) {
                outside("rule 3: numbers are held as bits here, so that none is a NaN", tree);
            }
            return super.visitPrimitiveType(tree, nothing);
        }

        @Override
        public Void visitBinary(BinaryTree tree, Void nothing) {
            if (tree.getKind() == Tree.Kind.DIVIDE || tree.getKind() == Tree.Kind.REMAINDER) {
                String text = tree.getRightOperand().toString();
                if (!text.equals("KEPT") && !text.equals("box.every") && !text.equals("5")) {
                    outside("rule 7: look whether " + text + " can be 0", tree);
                }
            }
            return super.visitBinary(tree, nothing);
        }

        @Override
        public Void visitThrow(ThrowTree tree, Void nothing) {
            outside("rule 6: throw", tree);
            return super.visitThrow(tree, nothing);
        }

        @Override
        public Void visitTry(TryTree tree, Void nothing) {
            outside("rule 6: try", tree);
            return super.visitTry(tree, nothing);
        }

        @Override
        public Void visitSynchronized(SynchronizedTree tree, Void nothing) {
            outside("rule 6: synchronized", tree);
            return super.visitSynchronized(tree, nothing);
        }

        @Override
        public Void visitAssert(AssertTree tree, Void nothing) {
            outside("rule 6: assert", tree);
            return super.visitAssert(tree, nothing);
        }

        @Override
        public Void visitLambdaExpression(LambdaExpressionTree tree, Void nothing) {
            outside("rule 2: a lambda", tree);
            return super.visitLambdaExpression(tree, nothing);
        }

        @Override
        public Void visitMemberReference(MemberReferenceTree tree, Void nothing) {
            outside("rule 2: a method reference", tree);
            return super.visitMemberReference(tree, nothing);
        }

        /** The deepest chain of calls from each method, where a method that stands in it already is not gone into again. */
        private void depths() {
            for (String method : calls.keySet()) {
                Deque<String> chain = new ArrayDeque<>();
                follow(method, chain);
            }
        }

        private void follow(String method, Deque<String> chain) {
            if (chain.contains(method)) {
                return;
            }
            chain.addLast(method);
            if (chain.size() == DEPTH_MOST + 1) {
                complain("rule 11: nine deep: " + chain);
            } else {
                for (String next : calls.getOrDefault(method, Set.of())) {
                    follow(next, chain);
                }
            }
            chain.removeLast();
        }
    }
}
