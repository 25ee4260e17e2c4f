import java.io.IOException;
import java.lang.reflect.InvocationTargetException;
import java.lang.reflect.Method;
import java.lang.reflect.Modifier;
import java.net.URL;
import java.net.URLClassLoader;
import java.nio.file.DirectoryStream;
import java.nio.file.Files;
import java.nio.file.Path;
import java.util.List;
import java.util.regex.Matcher;
import java.util.regex.Pattern;
import javax.tools.ToolProvider;

/** What README.md shows under "How to use it" compiles, uses every call of the face, and answers what stands behind it. */
public final class ReadmeTest {
    private static final Path FILE = Path.of("README.md");
    private static final Pattern BLOCK = Pattern.compile("(?s)```java\\n(.*?)```");
    private static final Pattern ANSWER = Pattern.compile("(?m)^(court\\.\\w+\\([^\\n]*\\)); +// (-?\\d+|true|false):");

    private final Bench bench = new Bench("ReadmeTest");

    public static void main(String[] args) throws IOException, ReflectiveOperationException {
        ReadmeTest test = new ReadmeTest();
        Path made = Files.createTempDirectory("readme");
        try {
            test.run(made);
        } finally {
            try (DirectoryStream<Path> files = Files.newDirectoryStream(made)) {
                for (Path file : files) {
                    Files.delete(file);
                }
            }
            Files.delete(made);
        }
        test.bench.close();
    }

    private void run(Path made) throws IOException, ReflectiveOperationException {
        Matcher blocks = BLOCK.matcher(Files.readString(FILE));
        String helper = blocks.find() ? blocks.group(1) : "";
        String example = blocks.find() ? blocks.group(1) : "";
        bench.due("there is no third block", blocks.find(), false);
        everyCall(helper + example);
        Path source = made.resolve("ReadmeExample.java");
        Files.writeString(source, sourceOf(helper, example));
        int status = ToolProvider.getSystemJavaCompiler().run(null, null, null, "-d", made.toString(),
                "-cp", System.getProperty("java.class.path"), source.toString());
        bench.due("it compiles", status, 0);
        if (status == 0) {
            try (URLClassLoader loader = new URLClassLoader(new URL[] {made.toUri().toURL()})) {
                answers(loader.loadClass("ReadmeExample"));
            }
        }
    }

    private void everyCall(String code) {
        for (Method method : HalfCourt.class.getDeclaredMethods()) {
            if (Modifier.isPublic(method.getModifiers())) {
                bench.due("README.md uses " + method.getName(), code.contains("court." + method.getName() + "("), true);
            }
        }
    }

    /** Each call with an answer behind it is told, with what it answered and what is due. */
    private String sourceOf(String helper, String example) {
        String body = ANSWER.matcher(example).replaceAll("told.add(\"$1\"); told.add($1); told.add($2); //");
        bench.due("each call has its answer", Pattern.compile("(?m)^court\\.").matcher(body).find(), false);
        return "public class ReadmeExample {\n" + helper + "\npublic static java.util.List<Object> told() {\n"
                + "java.util.List<Object> told = new java.util.ArrayList<>();\n" + body + "\nreturn told;\n}\n}\n";
    }

    private void answers(Class<?> example) throws ReflectiveOperationException {
        try {
            List<?> told = (List<?>) example.getMethod("told").invoke(null);
            bench.due("calls are shown", told.size() >= 3 * 28, true);
            for (int i = 0; i + 2 < told.size(); i += 3) {
                Object got = told.get(i + 1);
                Object want = told.get(i + 2);
                bench.due(told.get(i) + " answers " + got + ", README.md says " + want, got.equals(want), true);
            }
        } catch (InvocationTargetException e) {
            bench.due("it ends by " + e.getCause(), true, false);
        }
    }
}
