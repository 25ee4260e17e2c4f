import java.io.IOException;
import java.lang.reflect.Constructor;
import java.lang.reflect.Field;
import java.lang.reflect.Method;
import java.lang.reflect.Modifier;
import java.nio.file.Files;
import java.nio.file.Path;
import java.util.Arrays;
import java.util.HashSet;
import java.util.List;
import java.util.Set;
import java.util.TreeSet;
import java.util.regex.Matcher;
import java.util.regex.Pattern;

/** The rules of LANGUAGE.md that can be looked up in the file or in the class, and the face of the document. */
public final class LanguageTest {
    private static final Path FILE = Path.of("src/main/java/HalfCourt.java");
    private static final String FACE = "feed(int,int,int,int,int):int end(int):int trial():int fault(int):int "
            + "edge(int,int,int,int):int witness(int,int):int scene(int,int,int,int):int state(int,int,int,int,int):int "
            + "call(int,int):int untell(int):boolean later(int):int fits(int):int liars(int,int):int fewest(int,int):int "
            + "sure(int,int,int,boolean,int):int twice(int):int struck(int,int):int apart(int,int):int blind(int):int "
            + "seat(int,int,int):int bestSeat(int):int byTurn(int):int parted(int,int):int parts(int,int,int):int "
            + "list(int,int):int rounds(int,int):int image(int):int back(int):int about(int):int";

    private final Bench bench = new Bench("LanguageTest");

    public static void main(String[] args) throws IOException {
        LanguageTest test = new LanguageTest();
        test.face();
        test.classesInside();
        test.words(Files.readString(FILE));
        test.methodLengths(Files.readString(FILE));
        test.bench.close();
    }

    private void face() {
        Class<?> face = HalfCourt.class;
        Set<String> found = new TreeSet<>();
        Set<String> names = new HashSet<>();
        for (Method method : face.getDeclaredMethods()) {
            if (Modifier.isPublic(method.getModifiers())) {
                StringBuilder told = new StringBuilder(method.getName()).append('(');
                for (Class<?> type : method.getParameterTypes()) {
                    told.append(told.charAt(told.length() - 1) == '(' ? "" : ",").append(type.getName());
                }
                found.add(told.append("):").append(method.getReturnType().getName()).toString());
                names.add(method.getName());
            }
        }
        Set<String> due = new TreeSet<>(Arrays.asList(FACE.split(" ")));
        bench.due("the face is " + found, found.equals(due), true);
        bench.due("public final", face.getModifiers(), Modifier.PUBLIC | Modifier.FINAL);
        Constructor<?>[] made = face.getDeclaredConstructors();
        bench.due("one constructor, public", made.length == 1 && made[0].getModifiers() == Modifier.PUBLIC, true);
        for (Field field : face.getDeclaredFields()) {
            boolean open = field.getName().equals("NONE");
            bench.due(field.getName() + " is private", Modifier.isPrivate(field.getModifiers()), !open);
            bench.due(field.getName() + " is public", Modifier.isPublic(field.getModifiers()), open);
        }
        for (Class<?> one : allClasses()) {
            for (Method method : one.getDeclaredMethods()) {
                boolean outward = Modifier.isPublic(method.getModifiers());
                bench.due(method + " shares its name with the face", !outward && names.contains(method.getName()), false);
                bench.due(method + " takes more than seven", method.getParameterCount() > 7, false);
            }
        }
    }

    private static List<Class<?>> allClasses() {
        List<Class<?>> all = new java.util.ArrayList<>(Arrays.asList(HalfCourt.class.getDeclaredClasses()));
        all.add(HalfCourt.class);
        return all;
    }

    private void classesInside() {
        bench.due("some twelve classes at most", allClasses().size() <= 12, true);
        for (Class<?> one : allClasses()) {
            boolean inside = one != HalfCourt.class;
            bench.due(one + " is static", Modifier.isStatic(one.getModifiers()), inside);
            bench.due(one + " is open", inside && (one.getModifiers() & (Modifier.PUBLIC | Modifier.PROTECTED)) != 0, false);
            int fields = 0;
            for (Field field : one.getDeclaredFields()) {
                boolean shared = Modifier.isStatic(field.getModifiers());
                fields += shared ? 0 : 1;
                bench.due(field + " is final if static", !shared || Modifier.isFinal(field.getModifiers()), true);
            }
            bench.due(one + " has " + fields + " fields", fields <= 20, true);
        }
    }

    private void words(String source) {
        String bare = source.replaceAll("(?s)/\\*.*?\\*/", " ").replaceAll("//[^\n]*", " ")
                .replaceAll("\"[^\"\n]*\"", "\"\"").replaceAll("'[^'\n]*'", "' '");
        String[] banned = {"\\bthrows?\\b", "\\btry\\b", "\\bcatch\\b", "\\bsynchronized\\b", "\\bassert\\b", "->", "::",
            "\\bpackage\\b", "\\bvar\\b", "\\bfinalize\\b", "\\bSystem\\.(?!arraycopy)", "\\bThread\\b", "\\bvolatile\\b",
            "Exact\\b", "\\bnative\\b", "\\bdouble\\b", "\\bfloat\\b", "\\.equals\\b", "hashCode", "toString", "\\bwhile\\b",
            "static\\s*\\{"};
        for (String one : banned) {
            Matcher found = Pattern.compile(one).matcher(bare);
            bench.due("has " + one, found.find(), false);
        }
        Matcher imports = Pattern.compile("import ([^;]*);").matcher(bare);
        while (imports.find()) {
            bench.due("import " + imports.group(1), imports.group(1).equals("java.util.Arrays"), true);
        }
        bench.due("signs 10 and 32 to 126 alone", source.matches("[\\n -~]*"), true);
    }

    private void methodLengths(String source) {
        int start = 0;
        int line = 0;
        for (String text : source.split("\n")) {
            line++;
            if (text.matches("( {4}| {8})[a-zA-Z].*\\) \\{")) {
                start = line;
            }
            if (text.matches("( {4}| {8})}") && start > 0) {
                bench.due("the method at line " + start + " is long", line - start > 60, false);
                start = 0;
            }
        }
    }
}
