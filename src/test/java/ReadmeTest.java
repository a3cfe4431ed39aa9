import java.io.IOException;
import java.lang.reflect.Method;
import java.lang.reflect.Modifier;
import java.net.URL;
import java.net.URLClassLoader;
import java.nio.file.Files;
import java.nio.file.Path;
import java.util.ArrayList;
import java.util.List;
import java.util.TreeSet;
import java.util.regex.Matcher;
import java.util.regex.Pattern;
import java.util.stream.Stream;
import javax.tools.ToolProvider;

/** README.md: its example answers as it says there, and its tables name the calls and tests there are. */
public final class ReadmeTest {
    private static final Path ROOT = Path.of(System.getProperty("project.root", "."));
    private static int wrong = 0;

    private static void due(String what, Object got, Object want) {
        if (!got.equals(want)) {
            wrong++;
            System.out.println("README.md: " + what + " is " + got + ", due is " + want);
        }
    }

    private static List<String> all(String pattern, String text) {
        List<String> out = new ArrayList<>();
        Matcher m = Pattern.compile(pattern, Pattern.DOTALL | Pattern.MULTILINE).matcher(text);
        while (m.find()) {
            out.add(m.group(1));
        }
        return out;
    }

    /** A line that says what its call answers becomes a look at the answer. */
    private static String checked(String line) {
        Matcher m = Pattern.compile("(int (\\w+) = )?(.*); // (-?[0-9]+)(:.*)?").matcher(line);
        if (!m.matches()) {
            return line;
        }
        String kept = m.group(1) == null ? "" : line + "\n";
        String asked = m.group(1) == null ? m.group(3) : m.group(2);
        return kept + "look(\"" + m.group(3).replace("\"", "'") + "\", " + asked + ", " + m.group(4) + ");";
    }

    private static void example(List<String> blocks) throws IOException, ReflectiveOperationException {
        StringBuilder code = new StringBuilder("import java.nio.ByteBuffer;\n"
            + "import java.nio.charset.StandardCharsets;\nimport java.util.*;\npublic final class Example {\n"
            + "static List<String> told = new ArrayList<>();\nstatic void look(String call, int got, int want) {\n"
            + "told.add(got == want ? \"\" : call + \" answers \" + got + \", README.md says \" + want); }\n");
        code.append(blocks.get(0)).append("public static List<String> run() {\n");
        blocks.get(1).lines().forEach(line -> code.append(checked(line)).append('\n'));
        code.append("return told; } }\n");
        Path dir = Files.createTempDirectory("readme");
        Path source = Files.writeString(dir.resolve("Example.java"), code);
        int compiled = ToolProvider.getSystemJavaCompiler().run(null, null, null, "-cp",
            System.getProperty("java.class.path"), "-d", dir.toString(), source.toString());
        due("what javac ends with at the example", compiled, 0);
        try (URLClassLoader loader = new URLClassLoader(new URL[] {dir.toUri().toURL()})) {
            List<?> told = (List<?>) loader.loadClass("Example").getMethod("run").invoke(null);
            due("how many lines of the example say an answer", told.size() > 25, true);
            told.stream().filter(t -> !t.equals("")).forEach(t -> due("the example", t, "as it says"));
        }
        try (Stream<Path> made = Files.list(dir)) {
            for (Path file : made.toList()) {
                Files.delete(file);
            }
        }
        Files.delete(dir);
    }

    /** Each call with the number of its arguments. */
    private static void calls(String text) {
        TreeSet<String> told = new TreeSet<>();
        for (String call : all("^\\| `(\\w+\\([^)]*\\))` \\|", text)) {
            String inside = call.replaceAll(".*\\(|\\)", "");
            told.add(call.replaceAll("\\(.*", "") + "/" + (inside.isEmpty() ? 0 : inside.split(",").length));
        }
        TreeSet<String> there = new TreeSet<>();
        for (Method m : CurtainHouse.class.getDeclaredMethods()) {
            if (Modifier.isPublic(m.getModifiers())) {
                there.add(m.getName() + "/" + m.getParameterCount());
            }
        }
        due("the table of calls", told, there);
    }

    private static void tests(String text) throws IOException {
        TreeSet<String> there = new TreeSet<>();
        try (Stream<Path> files = Files.list(ROOT.resolve("src/test/java"))) {
            files.forEach(f -> there.add(f.getFileName().toString().replace(".java", "")));
        }
        due("the table of tests", new TreeSet<>(all("^\\| `(\\w+Test)` \\|", text)), there);
    }

    public static void main(String[] args) throws IOException, ReflectiveOperationException {
        String text = Files.readString(ROOT.resolve("README.md"));
        List<String> blocks = all("^```java\n(.*?)^```$", text);
        due("how many blocks of code there are", blocks.size(), 2);
        example(blocks);
        calls(text);
        tests(text);
        System.out.println(wrong == 0 ? "README.md is as it says" : wrong + " things are not as README.md says");
        if (wrong != 0) {
            System.exit(1);
        }
    }
}
