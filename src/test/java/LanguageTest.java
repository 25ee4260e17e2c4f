import com.sun.source.tree.AssertTree;
import com.sun.source.tree.CatchTree;
import com.sun.source.tree.ClassTree;
import com.sun.source.tree.CompilationUnitTree;
import com.sun.source.tree.DoWhileLoopTree;
import com.sun.source.tree.ForLoopTree;
import com.sun.source.tree.ImportTree;
import com.sun.source.tree.InstanceOfTree;
import com.sun.source.tree.LambdaExpressionTree;
import com.sun.source.tree.LiteralTree;
import com.sun.source.tree.MemberReferenceTree;
import com.sun.source.tree.MethodInvocationTree;
import com.sun.source.tree.MethodTree;
import com.sun.source.tree.NewClassTree;
import com.sun.source.tree.PackageTree;
import com.sun.source.tree.SynchronizedTree;
import com.sun.source.tree.ThrowTree;
import com.sun.source.tree.TryTree;
import com.sun.source.tree.TypeCastTree;
import com.sun.source.tree.VariableTree;
import com.sun.source.tree.WhileLoopTree;
import com.sun.source.util.JavacTask;
import com.sun.source.util.TreePathScanner;
import com.sun.source.util.Trees;
import java.io.IOException;
import java.nio.file.Files;
import java.nio.file.Path;
import java.util.ArrayList;
import java.util.Arrays;
import java.util.HashSet;
import java.util.LinkedHashMap;
import java.util.LinkedHashSet;
import java.util.List;
import java.util.Map;
import java.util.Set;
import java.util.TreeSet;
import javax.lang.model.element.Element;
import javax.lang.model.element.ElementKind;
import javax.lang.model.element.ExecutableElement;
import javax.lang.model.element.Modifier;
import javax.lang.model.element.TypeElement;
import javax.tools.JavaCompiler;
import javax.tools.StandardJavaFileManager;
import javax.tools.ToolProvider;

/** The rules of LANGUAGE.md that can be looked up in the file, as the compiler reads it, and the face of the document. */
public final class LanguageTest {
    private static final Path FILE = Path.of("src/main/java/HalfCourt.java");
    private static final String FACE = "feed(int,int,int,int,int):int end(int):int trial():int fault(int):int "
            + "edge(int,int,int,int):int witness(int,int):int scene(int,int,int,int):int state(int,int,int,int,int):int "
            + "call(int,int):int untell(int):boolean later(int):int fits(int):int liars(int,int):int fewest(int,int):int "
            + "sure(int,int,int,boolean,int):int twice(int):int struck(int,int):int apart(int,int):int blind(int):int "
            + "seat(int,int,int):int bestSeat(int):int byTurn(int):int parted(int,int):int parts(int,int,int):int "
            + "list(int,int):int rounds(int,int):int image(int):int back(int):int about(int):int";
    private static final Set<String> LIBRARY = Set.of("String.length", "String.charAt", "Math.max", "Math.min", "Math.abs",
            "Integer.bitCount", "Long.bitCount", "System.arraycopy", "Arrays.fill");
    private static final Set<String> LIBRARY_TYPES = Set.of("java.lang.String", "java.lang.Object", "java.lang.Override");
    private static final int MOST_LINES = 60;
    private static final int MOST_DEEP = 8;
    private static final int MOST_OPEN = 300;

    private final Bench bench = new Bench("LanguageTest");
    private final Map<ExecutableElement, Set<ExecutableElement>> calls = new LinkedHashMap<>();
    private final Map<Element, Integer> fields = new LinkedHashMap<>();
    private final List<TypeElement> classes = new ArrayList<>();
    private CompilationUnitTree unit;
    private Trees trees;

    public static void main(String[] args) throws IOException {
        LanguageTest test = new LanguageTest();
        test.readFile();
        test.face();
        test.counts();
        test.depths();
        test.bench.due("signs 10 and 32 to 126 alone", Files.readString(FILE).matches("[\\n -~]*"), true);
        test.bench.close();
    }

    private void refuse(String what, boolean holds) {
        bench.due(what, holds, false);
    }

    private void readFile() throws IOException {
        JavaCompiler compiler = ToolProvider.getSystemJavaCompiler();
        try (StandardJavaFileManager files = compiler.getStandardFileManager(null, null, null)) {
            JavacTask task = (JavacTask) compiler.getTask(null, files, null, null, null, files.getJavaFileObjects(FILE));
            unit = task.parse().iterator().next();
            task.analyze();
            trees = Trees.instance(task);
            new Rules().scan(unit, null);
        }
    }

    private long lineOf(long position) {
        return unit.getLineMap().getLineNumber(position);
    }

    private final class Rules extends TreePathScanner<Void, Void> {
        private ExecutableElement in = null;

        private void never(Object tree) {
            refuse("has " + tree, true);
        }

        @Override
        public Void visitClass(ClassTree tree, Void none) {
            TypeElement type = (TypeElement) trees.getElement(getCurrentPath());
            refuse("a class within a method", in != null);
            if (type != null) {
                classes.add(type);
                fields.put(type, 0);
            }
            return super.visitClass(tree, none);
        }

        @Override
        public Void visitMethod(MethodTree tree, Void none) {
            in = (ExecutableElement) trees.getElement(getCurrentPath());
            calls.put(in, new LinkedHashSet<>());
            refuse(tree.getName() + " takes more than seven", tree.getParameters().size() > 7);
            long from = lineOf(trees.getSourcePositions().getStartPosition(unit, tree));
            long to = lineOf(trees.getSourcePositions().getEndPosition(unit, tree));
            refuse(tree.getName() + " has " + (to - from + 1) + " lines", from > 0 && to - from + 1 > MOST_LINES);
            super.visitMethod(tree, none);
            in = null;
            return null;
        }

        @Override
        public Void visitVariable(VariableTree tree, Void none) {
            Element element = trees.getElement(getCurrentPath());
            String type = element.asType().toString();
            boolean shared = element.getModifiers().contains(Modifier.STATIC);
            if (element.getKind() == ElementKind.FIELD) {
                fields.merge(element.getEnclosingElement(), shared ? 0 : 1, Integer::sum);
                refuse(tree.getName() + " is static and may change",
                        shared && !element.getModifiers().contains(Modifier.FINAL));
                refuse(tree.getName() + " is static " + type, shared && !type.equals("int") && !type.equals("java.lang.String"));
            }
            boolean known = type.matches("(int|long|byte|char|boolean)(\\[\\])?|java\\.lang\\.String|HalfCourt\\.\\w+(\\[\\])?");
            refuse(tree.getName() + " is of type " + type, !known);
            return super.visitVariable(tree, none);
        }

        @Override
        public Void visitMethodInvocation(MethodInvocationTree tree, Void none) {
            note((ExecutableElement) trees.getElement(getCurrentPath()));
            return super.visitMethodInvocation(tree, none);
        }

        @Override
        public Void visitNewClass(NewClassTree tree, Void none) {
            refuse("an anonymous class", tree.getClassBody() != null);
            note((ExecutableElement) trees.getElement(getCurrentPath()));
            return super.visitNewClass(tree, none);
        }

        private void note(ExecutableElement called) {
            Element owner = called.getEnclosingElement();
            boolean own = owner.toString().startsWith("HalfCourt");
            String name = owner.getSimpleName() + "." + called.getSimpleName();
            refuse("uses " + name, !own && !LIBRARY.contains(name) && !LIBRARY_TYPES.contains(owner.toString()));
            refuse("uses " + name, owner.toString().equals("java.lang.String") && !LIBRARY.contains(name));
            if (own && in != null) {
                calls.get(in).add(called);
            }
        }

        @Override
        public Void visitForLoop(ForLoopTree tree, Void none) {
            String bound = "" + tree.getCondition();
            refuse("a loop without a counter: " + bound, tree.getUpdate().size() != 1 || tree.getInitializer().size() != 1);
            String counter = tree.getInitializer().get(0) instanceof VariableTree start ? start.getName().toString() : "?";
            refuse("a loop without a bound: " + bound, !bound.matches("(?s).*\\b" + counter + " (<|<=|>=) .*"));
            refuse("another counter: " + bound, !tree.getUpdate().get(0).toString().startsWith(counter));
            return super.visitForLoop(tree, none);
        }

        @Override
        public Void visitLiteral(LiteralTree tree, Void none) {
            if (tree.getValue() instanceof String text) {
                refuse("a sign that is not 1 to 127", !text.matches("[\\x01-\\x7f]*"));
            }
            return super.visitLiteral(tree, none);
        }

        @Override
        public Void visitImport(ImportTree tree, Void none) {
            bench.due("import " + tree, tree.getQualifiedIdentifier().toString().equals("java.util.Arrays"), true);
            return super.visitImport(tree, none);
        }

        @Override
        public Void visitTypeCast(TypeCastTree tree, Void none) {
            refuse("casts to " + tree.getType(), !tree.getType().toString().matches("int|long|byte"));
            return super.visitTypeCast(tree, none);
        }

        @Override
        public Void visitPackage(PackageTree tree, Void none) {
            never(tree);
            return null;
        }

        @Override
        public Void visitThrow(ThrowTree tree, Void none) {
            never(tree);
            return null;
        }

        @Override
        public Void visitTry(TryTree tree, Void none) {
            never(tree);
            return null;
        }

        @Override
        public Void visitCatch(CatchTree tree, Void none) {
            never(tree);
            return null;
        }

        @Override
        public Void visitAssert(AssertTree tree, Void none) {
            never(tree);
            return null;
        }

        @Override
        public Void visitSynchronized(SynchronizedTree tree, Void none) {
            never(tree);
            return null;
        }

        @Override
        public Void visitLambdaExpression(LambdaExpressionTree tree, Void none) {
            never(tree);
            return null;
        }

        @Override
        public Void visitMemberReference(MemberReferenceTree tree, Void none) {
            never(tree);
            return null;
        }

        @Override
        public Void visitInstanceOf(InstanceOfTree tree, Void none) {
            never(tree);
            return null;
        }

        @Override
        public Void visitWhileLoop(WhileLoopTree tree, Void none) {
            never(tree);
            return null;
        }

        @Override
        public Void visitDoWhileLoop(DoWhileLoopTree tree, Void none) {
            never(tree);
            return null;
        }
    }

    /** The members of the document's face, and none beside them that is not private. */
    private void face() {
        TypeElement face = classes.get(0);
        bench.due("HalfCourt is public and final", face.getModifiers().equals(Set.of(Modifier.PUBLIC, Modifier.FINAL)), true);
        Set<String> found = new TreeSet<>();
        Set<String> names = new HashSet<>();
        for (Element member : face.getEnclosedElements()) {
            boolean open = member.getModifiers().contains(Modifier.PUBLIC);
            boolean inside = member.getKind() == ElementKind.CLASS;
            refuse(member + " is neither public nor private", !open && !inside && !member.getModifiers().contains(Modifier.PRIVATE));
            refuse(member + " is an open class", inside && open);
            refuse(member + " is not static", inside && !member.getModifiers().contains(Modifier.STATIC));
            if (open && member.getKind() == ElementKind.METHOD) {
                found.add(member + ":" + ((ExecutableElement) member).getReturnType());
                names.add(member.getSimpleName().toString());
            } else if (open) {
                bench.due("public " + member, member.toString().equals("NONE") || member.toString().equals("HalfCourt()"), true);
            }
        }
        bench.due("the face is " + found, found.equals(new TreeSet<>(Arrays.asList(FACE.split(" ")))), true);
        for (ExecutableElement method : calls.keySet()) {
            boolean open = method.getModifiers().contains(Modifier.PUBLIC);
            refuse(method + " bears a name of the face", !open && names.contains(method.getSimpleName().toString()));
            refuse(method + " is not of the face", open && method.getEnclosingElement() != face);
        }
    }

    private void counts() {
        refuse(classes.size() + " classes", classes.size() > 12);
        for (Map.Entry<Element, Integer> one : fields.entrySet()) {
            refuse(one.getKey() + " has " + one.getValue() + " fields", one.getValue() > 20);
        }
    }

    /** Methods that call one another count once in how deep calls go, and as all of them for each level of the law's text. */
    private void depths() {
        Map<ExecutableElement, Set<ExecutableElement>> reach = new LinkedHashMap<>();
        for (ExecutableElement method : calls.keySet()) {
            reach.put(method, reachedFrom(method));
        }
        for (ExecutableElement method : calls.keySet()) {
            int deep = deepest(method, reach);
            refuse(method + " goes " + deep + " deep", deep > MOST_DEEP);
            int around = ringOf(method, reach).size();
            refuse(method + " is in a ring of " + around, around * 9 + MOST_DEEP > MOST_OPEN);
            refuse(method + " calls itself and carries no depth", around > 0 && method.getParameters().size() != 1);
        }
    }

    private Set<ExecutableElement> reachedFrom(ExecutableElement method) {
        Set<ExecutableElement> found = new LinkedHashSet<>();
        List<ExecutableElement> open = new ArrayList<>(List.of(method));
        while (!open.isEmpty()) {
            for (ExecutableElement called : calls.getOrDefault(open.remove(0), Set.of())) {
                if (found.add(called)) {
                    open.add(called);
                }
            }
        }
        return found;
    }

    private Set<ExecutableElement> ringOf(ExecutableElement method, Map<ExecutableElement, Set<ExecutableElement>> reach) {
        Set<ExecutableElement> ring = new LinkedHashSet<>();
        for (ExecutableElement other : reach.get(method)) {
            if (reach.getOrDefault(other, Set.of()).contains(method)) {
                ring.add(other);
            }
        }
        return ring;
    }

    private int deepest(ExecutableElement method, Map<ExecutableElement, Set<ExecutableElement>> reach) {
        Set<ExecutableElement> ring = new LinkedHashSet<>(ringOf(method, reach));
        ring.add(method);
        int below = 0;
        for (ExecutableElement one : ring) {
            for (ExecutableElement called : calls.getOrDefault(one, Set.of())) {
                if (!ring.contains(called) && calls.containsKey(called)) {
                    below = Math.max(below, deepest(called, reach));
                }
            }
        }
        return below + 1;
    }
}
