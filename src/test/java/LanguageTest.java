import com.sun.source.tree.AssertTree;
import com.sun.source.tree.ClassTree;
import com.sun.source.tree.CompilationUnitTree;
import com.sun.source.tree.DoWhileLoopTree;
import com.sun.source.tree.ExpressionTree;
import com.sun.source.tree.ForLoopTree;
import com.sun.source.tree.LambdaExpressionTree;
import com.sun.source.tree.MemberReferenceTree;
import com.sun.source.tree.MethodInvocationTree;
import com.sun.source.tree.MethodTree;
import com.sun.source.tree.NewClassTree;
import com.sun.source.tree.SynchronizedTree;
import com.sun.source.tree.ThrowTree;
import com.sun.source.tree.Tree;
import com.sun.source.tree.TryTree;
import com.sun.source.tree.VariableTree;
import com.sun.source.tree.WhileLoopTree;
import com.sun.source.util.JavacTask;
import com.sun.source.util.TreePathScanner;
import com.sun.source.util.Trees;
import java.io.IOException;
import java.lang.management.ManagementFactory;
import java.lang.reflect.Constructor;
import java.lang.reflect.Field;
import java.lang.reflect.Method;
import java.lang.reflect.Modifier;
import java.nio.file.Path;
import java.util.HashMap;
import java.util.LinkedHashSet;
import java.util.List;
import java.util.Map;
import java.util.Set;
import java.util.TreeSet;
import javax.lang.model.element.Element;
import javax.lang.model.element.ElementKind;
import javax.lang.model.element.ExecutableElement;
import javax.tools.JavaCompiler;
import javax.tools.StandardJavaFileManager;
import javax.tools.ToolProvider;

/** What LANGUAGE.md asks of the class as far as a test can see it. Runs in the project's folder. */
final class LanguageTest {
    private static final Due DUE = new Due("LanguageTest");
    private static final String FACE = "letter(int) blank() fault() rows() row(int,int) as(int,int) term(int,int) by(int,int,int) "
        + "lap(int,int,int) least(int,int,int) rule(int,int) roots(int,int) noughts(int) ends(int) open(int,int) meets(int,int,int) "
        + "told(int,int,int,int) sum(int,int) product(int,int) each(int,int,int) step(int) put(int,int,int) drop() ease(int) "
        + "give(int) forget() guess(int) found() drawn(int,int,int) image() restore() count(int) digest()";

    public static void main(String[] args) throws IOException {
        face();
        constants();
        nested();
        source();
        room();
        DUE.end();
    }

    private static void face() {
        Class<?> all = AheadRows.class;
        DUE.holds("the class is public and final", Modifier.isPublic(all.getModifiers()) && Modifier.isFinal(all.getModifiers()));
        TreeSet<String> open = new TreeSet<>();
        for (Method method : all.getDeclaredMethods()) {
            if (Modifier.isPrivate(method.getModifiers())) {
                DUE.holds("private " + method.getName() + " is no public name", !isPublicName(method.getName()));
                continue;
            }
            DUE.holds(method + " is public and no static one", method.getModifiers() == Modifier.PUBLIC);
            Class<?> type = method.getName().equals("digest") ? long.class : int.class;
            DUE.holds("the type of " + method, method.getReturnType() == type);
            open.add(method.toString().replaceFirst(".* AheadRows\\.", ""));
        }
        DUE.holds("the methods are those of the document", open.equals(new TreeSet<>(List.of(FACE.split(" ")))));
        Constructor<?>[] constructors = all.getDeclaredConstructors();
        DUE.holds("one public constructor", constructors.length == 1 && Modifier.isPublic(constructors[0].getModifiers())
            && constructors[0].getParameterCount() == 0);
    }

    private static boolean isPublicName(String name) {
        return FACE.matches("(.* )?" + name + "\\(.*");
    }

    private static void constants() {
        TreeSet<String> constants = new TreeSet<>();
        for (Field field : AheadRows.class.getDeclaredFields()) {
            boolean isPublic = Modifier.isPublic(field.getModifiers());
            if (isPublic) constants.add(field.getName());
            DUE.holds(field + " is private or a constant", isPublic || Modifier.isPrivate(field.getModifiers()));
        }
        DUE.holds("the constants", constants.equals(new TreeSet<>(List.of("NONE", "FAR", "UNKNOWN", "OUTSIDE", "STATE", "FULL"))));
        DUE.is("NONE", AheadRows.NONE, 2000000001);
        DUE.is("FAR", AheadRows.FAR, 2000000002);
        DUE.is("UNKNOWN", AheadRows.UNKNOWN, 2000000101);
        DUE.is("OUTSIDE", AheadRows.OUTSIDE, 2000000102);
        DUE.is("STATE", AheadRows.STATE, 2000000103);
        DUE.is("FULL", AheadRows.FULL, 2000000104);
    }

    private static void nested() {
        Class<?>[] nested = AheadRows.class.getDeclaredClasses();
        DUE.holds("at most some twelve classes", nested.length + 1 <= 12);
        for (Class<?> inside : nested) {
            int modifiers = inside.getModifiers();
            DUE.holds(inside + " is static, and private or package-visible",
                Modifier.isStatic(modifiers) && !Modifier.isPublic(modifiers) && !Modifier.isProtected(modifiers));
        }
        countFields(AheadRows.class);
        for (Class<?> inside : nested) countFields(inside);
    }

    private static void countFields(Class<?> one) {
        int fields = 0;
        for (Field field : one.getDeclaredFields()) {
            boolean isStatic = Modifier.isStatic(field.getModifiers());
            if (!isStatic) fields++;
            DUE.holds(field + ": static means final", !isStatic || Modifier.isFinal(field.getModifiers()));
        }
        DUE.holds(one + " has at most some twenty fields", fields <= 20);
    }

    private static void source() throws IOException {
        JavaCompiler compiler = ToolProvider.getSystemJavaCompiler();
        try (StandardJavaFileManager files = compiler.getStandardFileManager(null, null, null)) {
            JavacTask task = (JavacTask) compiler.getTask(null, files, null, List.of("-proc:none"), null,
                files.getJavaFileObjects(Path.of("src/main/java/AheadRows.java")));
            Iterable<? extends CompilationUnitTree> units = task.parse();
            task.analyze();
            for (CompilationUnitTree unit : units) {
                Look look = new Look(Trees.instance(task), unit);
                look.scan(unit, null);
                look.depths();
            }
        }
    }

    /** Reads the source: what must not stand there, what of the library is used, and how deep the calls go. */
    private static final class Look extends TreePathScanner<Void, Void> {
        private static final Map<String, String> LIBRARY = Map.of(
            "java.lang.String", "length charAt isEmpty equals indexOf substring toCharArray <init>",
            "java.lang.StringBuilder", "<init> append charAt setCharAt setLength deleteCharAt reverse length toString",
            "java.util.ArrayList", "<init> add get set remove size isEmpty clear",
            "java.util.List", "add get set remove size isEmpty clear of",
            "java.util.Iterator", "hasNext next", "java.util.Iterable", "iterator",
            "java.lang.System", "arraycopy", "java.util.Arrays", "copyOf copyOfRange fill", "java.lang.Object", "<init>");

        private final Trees trees;
        private final CompilationUnitTree unit;
        private final Map<Element, Set<Element>> calls = new HashMap<>();
        private final Map<Element, Integer> known = new HashMap<>();
        private Element method;

        Look(Trees trees, CompilationUnitTree unit) {
            this.trees = trees;
            this.unit = unit;
        }

        private void never(String what, Tree tree) {
            long at = trees.getSourcePositions().getStartPosition(unit, tree);
            DUE.holds("line " + unit.getLineMap().getLineNumber(at) + " has no " + what, false);
        }

        @Override
        public Void visitThrow(ThrowTree tree, Void none) {
            never("throw", tree);
            return super.visitThrow(tree, none);
        }

        @Override
        public Void visitTry(TryTree tree, Void none) {
            never("try", tree);
            return super.visitTry(tree, none);
        }

        @Override
        public Void visitSynchronized(SynchronizedTree tree, Void none) {
            never("synchronized", tree);
            return super.visitSynchronized(tree, none);
        }

        @Override
        public Void visitAssert(AssertTree tree, Void none) {
            never("assert", tree);
            return super.visitAssert(tree, none);
        }

        @Override
        public Void visitLambdaExpression(LambdaExpressionTree tree, Void none) {
            never("lambda", tree);
            return super.visitLambdaExpression(tree, none);
        }

        @Override
        public Void visitMemberReference(MemberReferenceTree tree, Void none) {
            never("method reference", tree);
            return super.visitMemberReference(tree, none);
        }

        @Override
        public Void visitClass(ClassTree tree, Void none) {
            Tree.Kind around = getCurrentPath().getParentPath().getLeaf().getKind();
            boolean isMember = around == Tree.Kind.COMPILATION_UNIT || around == Tree.Kind.CLASS;
            if (!isMember) never("local or anonymous class", tree);
            return super.visitClass(tree, none);
        }

        private void loop(ExpressionTree condition, Tree tree) {
            if (condition == null || condition.toString().matches("\\(?true\\)?")) never("loop without an end", tree);
        }

        @Override
        public Void visitForLoop(ForLoopTree tree, Void none) {
            loop(tree.getCondition(), tree);
            return super.visitForLoop(tree, none);
        }

        @Override
        public Void visitWhileLoop(WhileLoopTree tree, Void none) {
            loop(tree.getCondition(), tree);
            return super.visitWhileLoop(tree, none);
        }

        @Override
        public Void visitDoWhileLoop(DoWhileLoopTree tree, Void none) {
            loop(tree.getCondition(), tree);
            return super.visitDoWhileLoop(tree, none);
        }

        @Override
        public Void visitVariable(VariableTree tree, Void none) {
            Element element = trees.getElement(getCurrentPath());
            if (element != null && element.getKind() == ElementKind.FIELD
                && element.getModifiers().contains(javax.lang.model.element.Modifier.STATIC)) {
                String type = element.asType().toString();
                boolean isPlain = type.matches("int|long|boolean|char|java\\.lang\\.String");
                boolean isArray = type.matches("(int|long|char|byte)\\[\\]") && tree.getInitializer() != null
                    && tree.getInitializer().getKind() == Tree.Kind.NEW_ARRAY;
                DUE.holds("the static " + element + " is a constant or an array written out", isPlain || isArray);
            }
            return super.visitVariable(tree, none);
        }

        @Override
        public Void visitMethod(MethodTree tree, Void none) {
            method = trees.getElement(getCurrentPath());
            calls.putIfAbsent(method, new LinkedHashSet<>());
            DUE.holds(tree.getName() + " takes at most seven", tree.getParameters().size() <= 7);
            if (tree.getBody() != null) {
                long from = unit.getLineMap().getLineNumber(trees.getSourcePositions().getStartPosition(unit, tree));
                long to = unit.getLineMap().getLineNumber(trees.getSourcePositions().getEndPosition(unit, tree));
                DUE.holds(tree.getName() + " has at most some sixty lines", to - from < 60);
            }
            super.visitMethod(tree, none);
            method = null;
            return null;
        }

        @Override
        public Void visitMethodInvocation(MethodInvocationTree tree, Void none) {
            called(trees.getElement(getCurrentPath()), tree);
            return super.visitMethodInvocation(tree, none);
        }

        @Override
        public Void visitNewClass(NewClassTree tree, Void none) {
            called(trees.getElement(getCurrentPath()), tree);
            return super.visitNewClass(tree, none);
        }

        private void called(Element element, Tree tree) {
            if (!(element instanceof ExecutableElement)) return;
            String owner = element.getEnclosingElement().toString();
            if (owner.equals("AheadRows") || owner.startsWith("AheadRows.")) {
                if (method != null) calls.get(method).add(element);
            } else {
                DUE.holds("the library has " + owner + "." + element.getSimpleName(), isListed(owner, element.getSimpleName().toString()));
            }
        }

        private static boolean isListed(String owner, String name) {
            if (owner.matches("java\\.lang\\.(Math|Integer|Long)")) return !name.endsWith("Exact") && !name.equals("random");
            if (owner.equals("Array") && name.equals("clone")) return true;
            return List.of(LIBRARY.getOrDefault(owner, "").split(" ")).contains(name);
        }

        void depths() {
            for (Element one : calls.keySet()) {
                DUE.holds("calls from " + one + " go " + depth(one, new LinkedHashSet<>()) + " deep", depth(one, new LinkedHashSet<>()) <= 8);
            }
        }

        /** How many methods stand open at once below this one, itself among them; a recursion is counted once. */
        private int depth(Element one, Set<Element> above) {
            Integer before = known.get(one);
            if (before != null) return before;
            if (!above.add(one)) return 0;
            int most = 0;
            for (Element next : calls.getOrDefault(one, Set.of())) most = Math.max(most, depth(next, above));
            above.remove(one);
            known.put(one, most + 1);
            return most + 1;
        }
    }

    /** The room of one run has some 600,000 objects, of which none takes less than 16 bytes: so a run takes less. */
    private static void room() {
        com.sun.management.ThreadMXBean threads = (com.sun.management.ThreadMXBean) ManagementFactory.getThreadMXBean();
        run512();
        long before = threads.getCurrentThreadAllocatedBytes();
        long sum = run512();
        long made = threads.getCurrentThreadAllocatedBytes() - before;
        DUE.holds("calls were made", sum != 0);
        DUE.holds("a run makes " + made + " bytes", made < 600000L * 16);
    }

    /** 512 calls, the dearest ones many times. */
    private static long run512() {
        AheadRows x = Due.of("t1101;t2036;+01;*01;e023;d0;*32;*66");
        long h = x.image();
        for (int i = 0; i < 47; i++) {
            int row = i % 8;
            h += x.put(0, 2, i) + x.digest() + x.least(7, 7, 3) + x.ends(7) + x.open(7, 1) + x.meets(row, 7, 10) + x.drawn(30, i, 0);
            h += x.lap(7, 7, 2) + x.term(row, 200) + x.restore();
        }
        return h;
    }
}
