import com.sun.source.tree.AssignmentTree;
import com.sun.source.tree.BinaryTree;
import com.sun.source.tree.CompilationUnitTree;
import com.sun.source.tree.CompoundAssignmentTree;
import com.sun.source.tree.ExpressionStatementTree;
import com.sun.source.tree.IfTree;
import com.sun.source.tree.LiteralTree;
import com.sun.source.tree.ReturnTree;
import com.sun.source.tree.Tree;
import com.sun.source.tree.UnaryTree;
import com.sun.source.util.JavacTask;
import com.sun.source.util.SourcePositions;
import com.sun.source.util.TreeScanner;
import com.sun.source.util.Trees;
import java.io.File;
import java.io.IOException;
import java.nio.file.Files;
import java.nio.file.Path;
import java.util.ArrayList;
import java.util.Collections;
import java.util.List;
import java.util.Map;
import java.util.concurrent.ExecutorService;
import java.util.concurrent.Executors;
import java.util.concurrent.TimeUnit;
import javax.tools.DiagnosticCollector;
import javax.tools.JavaCompiler;
import javax.tools.JavaFileObject;
import javax.tools.StandardJavaFileManager;
import javax.tools.ToolProvider;

/**
 * A tool, not a test: breaks the class in one place at a time and tells which breaks no test has noticed. Its arguments
 * are the directory of the compiled tests and the names of those to run.
 */
public final class Mutants {
    private static final Path FILE = Path.of("src/main/java/HalfCourt.java");
    private static final int AT_ONCE = 8;
    private static final int SECONDS = 30;
    private static final Map<String, String[]> INSTEAD = Map.ofEntries(
            Map.entry("<", new String[] {"<=", ">"}), Map.entry("<=", new String[] {"<", ">"}),
            Map.entry(">", new String[] {">=", "<"}), Map.entry(">=", new String[] {">", "<"}),
            Map.entry("==", new String[] {"!="}), Map.entry("!=", new String[] {"=="}),
            Map.entry("&&", new String[] {"||"}), Map.entry("||", new String[] {"&&"}),
            Map.entry("+", new String[] {"-"}), Map.entry("-", new String[] {"+"}),
            Map.entry("*", new String[] {"+"}), Map.entry("/", new String[] {"*"}), Map.entry("%", new String[] {"/"}),
            Map.entry("&", new String[] {"|"}), Map.entry("|", new String[] {"&"}),
            Map.entry("<<", new String[] {">>"}), Map.entry(">>", new String[] {"<<"}));

    private record Break(int from, int to, String put) { }

    private final String source;
    private final List<Break> breaks = new ArrayList<>();
    private final List<String> unnoticed = Collections.synchronizedList(new ArrayList<>());

    private Mutants(String source) {
        this.source = source;
    }

    public static void main(String[] args) throws IOException, InterruptedException {
        Mutants mutants = new Mutants(Files.readString(FILE));
        mutants.find();
        mutants.tryAll(args[0], List.of(args).subList(1, args.length));
        Collections.sort(mutants.unnoticed);
        mutants.unnoticed.forEach(System.out::println);
        System.out.println(mutants.unnoticed.size() + " of " + mutants.breaks.size() + " breaks were not noticed");
    }

    private void find() throws IOException {
        JavaCompiler compiler = ToolProvider.getSystemJavaCompiler();
        try (StandardJavaFileManager files = compiler.getStandardFileManager(null, null, null)) {
            JavacTask task = (JavacTask) compiler.getTask(null, files, null, null, null, files.getJavaFileObjects(FILE));
            CompilationUnitTree unit = task.parse().iterator().next();
            new Finder(unit, Trees.instance(task).getSourcePositions()).scan(unit, null);
        }
    }

    private final class Finder extends TreeScanner<Void, Void> {
        private final CompilationUnitTree unit;
        private final SourcePositions positions;

        Finder(CompilationUnitTree unit, SourcePositions positions) {
            this.unit = unit;
            this.positions = positions;
        }

        private int from(Tree tree) {
            return (int) positions.getStartPosition(unit, tree);
        }

        private int to(Tree tree) {
            return (int) positions.getEndPosition(unit, tree);
        }

        private void add(Tree tree, String put) {
            breaks.add(new Break(from(tree), to(tree), put));
        }

        private String text(Tree tree) {
            return source.substring(from(tree), to(tree));
        }

        @Override
        public Void visitBinary(BinaryTree tree, Void none) {
            int from = to(tree.getLeftOperand());
            int to = from(tree.getRightOperand());
            String sign = source.substring(from, to).replaceAll("[() \n]", "");
            for (String other : INSTEAD.getOrDefault(sign, new String[0])) {
                breaks.add(new Break(from, to, source.substring(from, to).replace(sign, other)));
            }
            return super.visitBinary(tree, none);
        }

        @Override
        public Void visitLiteral(LiteralTree tree, Void none) {
            if (tree.getValue() instanceof Integer) {
                add(tree, "(" + text(tree) + " + 1)");
                add(tree, "(" + text(tree) + " - 1)");
            } else if (tree.getValue() instanceof Boolean flag) {
                add(tree, "" + !flag);
            } else if (tree.getValue() instanceof Character) {
                add(tree, "'#'");
            }
            return super.visitLiteral(tree, none);
        }

        @Override
        public Void visitIf(IfTree tree, Void none) {
            add(tree.getCondition(), "(hold(true))");
            add(tree.getCondition(), "(hold(false))");
            return super.visitIf(tree, none);
        }

        @Override
        public Void visitUnary(UnaryTree tree, Void none) {
            switch (tree.getKind()) {
                case LOGICAL_COMPLEMENT, BITWISE_COMPLEMENT, UNARY_MINUS -> add(tree, text(tree.getExpression()));
                default -> { }
            }
            return super.visitUnary(tree, none);
        }

        @Override
        public Void visitExpressionStatement(ExpressionStatementTree tree, Void none) {
            add(tree, ";");
            return super.visitExpressionStatement(tree, none);
        }

        @Override
        public Void visitAssignment(AssignmentTree tree, Void none) {
            return super.visitAssignment(tree, none);
        }

        @Override
        public Void visitCompoundAssignment(CompoundAssignmentTree tree, Void none) {
            add(tree, text(tree.getVariable()) + " = " + text(tree.getExpression()));
            return super.visitCompoundAssignment(tree, none);
        }

        @Override
        public Void visitReturn(ReturnTree tree, Void none) {
            if (tree.getExpression() != null) {
                add(tree.getExpression(), text(tree.getExpression()).equals("NONE") ? "0" : "(" + text(tree.getExpression()) + ") + 1");
                add(tree.getExpression(), "!(" + text(tree.getExpression()) + ")");
            }
            return super.visitReturn(tree, none);
        }
    }

    private void tryAll(String tests, List<String> names) throws InterruptedException {
        ExecutorService workers = Executors.newFixedThreadPool(AT_ONCE);
        for (Break one : breaks) {
            workers.execute(() -> {
                try {
                    tryOne(one, tests, names);
                } catch (IOException | InterruptedException e) {
                    unnoticed.add("could not be tried: " + e);
                }
            });
        }
        workers.shutdown();
        workers.awaitTermination(2, TimeUnit.HOURS);
    }

    private void tryOne(Break one, String tests, List<String> names) throws IOException, InterruptedException {
        Path room = Files.createTempDirectory("mutant");
        String broken = source.substring(0, one.from) + one.put + source.substring(one.to);
        int last = broken.lastIndexOf('}');
        broken = broken.substring(0, last) + "private static boolean hold(boolean b) { return b; } }";
        Path file = room.resolve("HalfCourt.java");
        Files.writeString(file, broken);
        if (compiles(file, room) && !noticed(room, tests, names)) {
            int line = (int) source.substring(0, one.from).lines().count();
            unnoticed.add(String.format("%5d: %s -> %s | %s", line, source.substring(one.from, one.to).replace("\n", " "), one.put,
                    source.lines().skip(line - 1).findFirst().orElse("").trim()));
        }
        for (File left : room.toFile().listFiles()) {
            left.delete();
        }
        room.toFile().delete();
    }

    private static boolean compiles(Path file, Path room) throws IOException {
        JavaCompiler compiler = ToolProvider.getSystemJavaCompiler();
        try (StandardJavaFileManager files = compiler.getStandardFileManager(null, null, null)) {
            DiagnosticCollector<JavaFileObject> told = new DiagnosticCollector<>();
            return compiler.getTask(null, files, told, List.of("-d", room.toString(), "-proc:none"), null,
                    files.getJavaFileObjects(file)).call();
        }
    }

    private static boolean noticed(Path room, String tests, List<String> names) throws IOException, InterruptedException {
        for (String name : names) {
            Process run = new ProcessBuilder("java", "-XX:TieredStopAtLevel=1", "-Xshare:auto", "-cp",
                    room + File.pathSeparator + tests, name)
                    .redirectErrorStream(true).redirectOutput(ProcessBuilder.Redirect.DISCARD).start();
            if (!run.waitFor(SECONDS, TimeUnit.SECONDS)) {
                run.destroyForcibly().waitFor();
                return true;
            }
            if (run.exitValue() != 0) {
                return true;
            }
        }
        return false;
    }
}
