import java.io.IOException;
import java.lang.reflect.Constructor;
import java.lang.reflect.Field;
import java.lang.reflect.Method;
import java.lang.reflect.Modifier;
import java.nio.file.Files;
import java.nio.file.Path;
import java.util.Arrays;
import java.util.List;
import java.util.Set;
import java.util.TreeSet;
import java.util.regex.Matcher;
import java.util.regex.Pattern;

/** The rules of LANGUAGE.md that can be seen from outside, and the face of the document. */
public final class LanguageTest {
    private static final Set<String> FACE = Set.of("cloth(iizi)", "bolt(ii)", "flaw(ii)", "boltOf(ii)",
        "feed(iiiii)", "end(i)", "order()", "fault(i)", "window(ii)", "layer(iii)", "pleat(iiz)", "drop(iiii)",
        "lost()", "plan(i)", "bound(i)", "cut(i)", "lacks(i)", "benches()", "bench(ii)", "about(i)");
    private static final int SHORT_METHOD = 60;
    private static int wrong = 0;

    private static void must(boolean fine, String what) {
        if (!fine) {
            wrong++;
            System.out.println("not so: " + what);
        }
    }

    private static String signature(Method m) {
        StringBuilder out = new StringBuilder(m.getName()).append('(');
        for (Class<?> type : m.getParameterTypes()) {
            out.append(type == boolean.class ? 'z' : type == int.class ? 'i' : '?');
        }
        return out.append(')').toString();
    }

    private static void checkFace() {
        Class<?> house = CurtainHouse.class;
        must(Modifier.isPublic(house.getModifiers()) && Modifier.isFinal(house.getModifiers()), "public and final");
        Set<String> open = new TreeSet<>();
        for (Method m : house.getDeclaredMethods()) {
            if (!Modifier.isPrivate(m.getModifiers())) {
                open.add(signature(m));
                must(Modifier.isPublic(m.getModifiers()) && m.getReturnType() == int.class, m + " is public int");
            }
        }
        must(open.equals(new TreeSet<>(FACE)), "the face is the document's: " + open);
        for (Field f : house.getDeclaredFields()) {
            must(Modifier.isPrivate(f.getModifiers()) || f.getName().equals("NONE"), f + " is private");
        }
        must(Arrays.stream(house.getFields()).map(Field::toString).toList()
            .equals(List.of("public static final int CurtainHouse.NONE")), "the one constant is NONE");
        for (Constructor<?> c : house.getDeclaredConstructors()) {
            must(Modifier.isPublic(c.getModifiers()) && c.getParameterCount() == 0, c + " is the document's");
        }
    }

    private static void checkClass(Class<?> type) {
        int fields = 0;
        for (Field f : type.getDeclaredFields()) {
            if (Modifier.isStatic(f.getModifiers())) {
                must(Modifier.isFinal(f.getModifiers()), f + " is final");
                must(List.of(int.class, long.class, boolean.class, char.class, String.class, int[].class,
                    long[].class, char[].class, byte[].class).contains(f.getType()), f + " is a constant");
            } else {
                fields++;
            }
        }
        must(fields <= 20, type + " has " + fields + " fields");
        for (Method m : type.getDeclaredMethods()) {
            must(m.getParameterCount() <= 7, m + " takes at most seven");
            boolean bearsFaceName = FACE.stream().anyMatch(face -> face.startsWith(m.getName() + "("));
            must(type == CurtainHouse.class ? !bearsFaceName || Modifier.isPublic(m.getModifiers()) : !bearsFaceName,
                m + " bears no name of the face");
        }
    }

    private static void checkText(Path source) throws IOException {
        String text = Files.readString(source);
        String code = text.replaceAll("(?s)/\\*.*?\\*/", "").replaceAll("//[^\n]*", "");
        code = code.replaceAll("'(\\\\.|[^'])'", "' '").replaceAll("\"[^\"]*\"", "\"\"");
        String[] refused = {"\\bthrow\\b", "\\bthrows\\b", "\\btry\\b", "\\bcatch\\b", "\\bsynchronized\\b",
            "\\bassert\\b", "->", "::", "\\bstatic\\s*\\{", "\\bpackage\\b", "\\bvar\\b", "\\bSystem\\.(?!arraycopy)",
            "\\bThread\\b", "\\bRandom\\b", "Exact\\b", "\\bnew\\s+\\w+\\s*\\([^)]*\\)\\s*\\{"};
        for (String r : refused) {
            Matcher m = Pattern.compile(r).matcher(code);
            must(!m.find(), "no " + r + " in the code");
        }
        Matcher imports = Pattern.compile("import\\s+([\\w.]+)").matcher(code);
        while (imports.find()) {
            must(imports.group(1).equals("java.util.Arrays"), "imports " + imports.group(1));
        }
        checkLengths(text.split("\n"));
    }

    /** Methods begin where a line of a member's indent ends in ") {", and end at that indent's "}". */
    private static void checkLengths(String[] lines) {
        for (int i = 0; i < lines.length; i++) {
            Matcher m = Pattern.compile("^( {4}| {8})\\S.*\\) \\{$").matcher(lines[i]);
            if (!m.matches()) {
                continue;
            }
            int end = i;
            while (end < lines.length && !lines[end].equals(m.group(1) + "}")) {
                end++;
            }
            must(end - i < SHORT_METHOD, "short: " + lines[i].trim());
        }
    }

    public static void main(String[] args) throws IOException {
        checkFace();
        checkClass(CurtainHouse.class);
        Class<?>[] inside = CurtainHouse.class.getDeclaredClasses();
        must(inside.length <= 11, "some twelve classes in all");
        for (Class<?> type : inside) {
            must(Modifier.isStatic(type.getModifiers()) && !Modifier.isPublic(type.getModifiers())
                && !Modifier.isProtected(type.getModifiers()), type + " is static and not public");
            checkClass(type);
        }
        checkText(Path.of(System.getProperty("project.root", "."), "src/main/java/CurtainHouse.java"));
        System.out.println(wrong == 0 ? "the language is kept to" : wrong + " rules are not kept to");
        if (wrong != 0) {
            System.exit(1);
        }
    }
}
