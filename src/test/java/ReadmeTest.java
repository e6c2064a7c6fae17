import java.io.File;
import java.io.IOException;
import java.lang.reflect.InvocationTargetException;
import java.lang.reflect.Method;
import java.lang.reflect.Modifier;
import java.net.URL;
import java.net.URLClassLoader;
import java.nio.file.Files;
import java.nio.file.Path;
import java.util.Comparator;
import java.util.List;
import java.util.Set;
import java.util.TreeSet;
import java.util.function.ObjLongConsumer;
import java.util.regex.Matcher;
import java.util.regex.Pattern;
import java.util.stream.Stream;
import javax.tools.JavaCompiler;
import javax.tools.StandardJavaFileManager;
import javax.tools.ToolProvider;

/** What README.md shows: its program compiles and answers what is told there, and it names every test. */
final class ReadmeTest {
    private static final Due due = new Due("ReadmeTest");
    /** A call whose answer is told: perhaps kept under a name, and behind it the number or the refusal. */
    private static final Pattern TOLD = Pattern.compile(
        "\\s*(?:(int|long) (\\w+) = )?(vault\\..*\\));\\s*// (-?\\d+|BAD|KIND|TWICE|FULL)(?:: .*)?");
    private static int told;

    public static void main(String[] args) throws IOException, ReflectiveOperationException {
        String readme = Files.readString(Path.of(System.getProperty("vault.readme", "README.md")));
        String program = program(readme);
        run(program);
        calls(program);
        tests(readme);
        due.end();
    }

    private static List<String> blocks(String readme, String language) {
        Matcher found = Pattern.compile("(?s)```" + language + "\n(.*?)```").matcher(readme);
        return found.results().map(one -> one.group(1)).toList();
    }

    private static String program(String readme) {
        StringBuilder all = new StringBuilder("public final class Example {\n"
            + "    public static void main(java.util.function.ObjLongConsumer<String> answer) {\n");
        for (String block : blocks(readme, "java")) {
            for (String line : block.split("\n")) all.append(checked(line)).append('\n');
        }
        return all.append("    }\n}\n").toString();
    }

    /** The same line, which also hands out its call, what is due, and what was answered. */
    private static String checked(String line) {
        Matcher parts = TOLD.matcher(line);
        if (!parts.matches()) {
            due.holds("a number or a refusal is told in: " + line, !line.contains("//"));
            return line;
        }
        told++;
        String want = parts.group(4);
        String number = want.matches("-?\\d+") ? want + "L" : "HouseholdVault." + want;
        String text = "\"" + parts.group(3) + " // \" + " + number;
        if (parts.group(2) == null) return "answer.accept(" + text + ", " + parts.group(3) + ");";
        String name = parts.group(2);
        return parts.group(1) + " " + name + " = " + parts.group(3) + "; answer.accept(" + text + ", " + name + ");";
    }

    private static void run(String program) throws IOException, ReflectiveOperationException {
        Path directory = Files.createTempDirectory("readme");
        try {
            Path source = Files.writeString(directory.resolve("Example.java"), program);
            boolean compiled = compile(source.toFile(), directory);
            due.holds("the program compiles", compiled);
            if (compiled) call(directory);
        } finally {
            try (Stream<Path> all = Files.walk(directory)) {
                all.sorted(Comparator.reverseOrder()).map(Path::toFile).forEach(File::delete);
            }
        }
    }

    private static boolean compile(File source, Path to) throws IOException {
        JavaCompiler compiler = ToolProvider.getSystemJavaCompiler();
        try (StandardJavaFileManager files = compiler.getStandardFileManager(null, null, null)) {
            List<String> options = List.of("-cp", System.getProperty("java.class.path"), "-d", to.toString());
            return compiler.getTask(null, files, null, options, null, files.getJavaFileObjects(source)).call();
        }
    }

    private static void call(Path directory) throws IOException, ReflectiveOperationException {
        int[] heard = {0};
        ObjLongConsumer<String> answer = (call, got) -> {
            heard[0]++;
            due.is(call, got, Long.parseLong(call.substring(call.lastIndexOf("// ") + 3)));
        };
        try (URLClassLoader loader = new URLClassLoader(new URL[] {directory.toUri().toURL()})) {
            loader.loadClass("Example").getMethod("main", ObjLongConsumer.class).invoke(null, answer);
        } catch (InvocationTargetException thrown) {
            due.holds("the program throws nothing: " + thrown.getCause(), false);
        }
        due.is("answers that were told and heard", heard[0], told);
    }

    private static void calls(String program) {
        for (Method method : HouseholdVault.class.getDeclaredMethods()) {
            if (!Modifier.isPublic(method.getModifiers())) continue;
            String name = method.getName();
            due.holds("the program shows " + name, program.contains("vault." + name + "("));
        }
    }

    /** Who runs the tests as README.md says runs all of them, as .ci/run does. */
    private static void tests(String readme) throws IOException {
        due.holds("it says how to run the tests", blocks(readme, "sh").contains(".ci/run\n"));
        due.holds(".ci/run can be run", Files.isExecutable(Path.of(".ci/run")));
        Set<String> there = new TreeSet<>();
        try (Stream<Path> all = Files.list(Path.of("src/test/java"))) {
            all.map(one -> one.getFileName().toString()).filter(one -> one.endsWith("Test.java"))
                .forEach(one -> there.add(one.replace(".java", "")));
        }
        Set<String> listed = new TreeSet<>();
        Pattern.compile("(?m)^\\| `(\\w+)` \\|").matcher(readme).results().forEach(one -> listed.add(one.group(1)));
        due.holds("it lists the tests that are there, " + there + ", but: " + listed, there.equals(listed));
    }
}
