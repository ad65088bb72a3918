import java.io.IOException;
import java.lang.reflect.Method;
import java.lang.reflect.Modifier;
import java.nio.file.Files;
import java.nio.file.Path;
import java.util.ArrayList;
import java.util.HashSet;
import java.util.List;
import java.util.Set;
import java.util.TreeSet;
import java.util.regex.Matcher;
import java.util.regex.Pattern;

/** Those rules of LANGUAGE.md that a look at the text and at the compiled class can tell. */
public final class LanguageTest {
    private static final String FACE = "feed end program fault has line lane warp part word raced kept next goes later by skew"
            + " alone agrees likely tells cycles poke set begin chance undo seed status";
    private static final Pattern HEAD = Pattern.compile(
            "^ {4,8}(?:public |private |static |final )*[\\w\\[\\]]+ (\\w+)\\(([^)]*)\\) \\{$");

    private final Check check = new Check();
    private final List<String> lines;

    private LanguageTest() throws IOException {
        lines = Files.readAllLines(Path.of("src/main/java/LaneWarps.java"));
        check.about("language");
    }

    public static void main(String[] args) throws IOException {
        LanguageTest test = new LanguageTest();
        test.words();
        test.methods();
        test.face();
        test.check.close("LanguageTest");
    }

    private static String bare(String line) {
        return line.replaceAll("\"[^\"]*\"", "\"\"").replaceAll("//.*", "").replaceAll("/\\*\\*.*", "").trim();
    }

    private void words() {
        Pattern barred = Pattern.compile("\\b(throw|throws|try|catch|synchronized|assert|protected|var|List|Scanner|System\\.(?!arraycopy)"
                + "|Object|Exception|hashCode|toString|Thread|volatile|interface|float|double)\\b|->|::|\\bwhile \\(true|for \\(;;");
        for (int k = 0; k < lines.size(); k++) {
            String line = bare(lines.get(k));
            Matcher m = barred.matcher(line);
            check.same("line " + (k + 1) + ": " + line, m.find(), false);
            if (line.startsWith("import ")) {
                check.same(line, line.equals("import java.util.Arrays;"), true);
            }
            if (line.contains(" static ") && line.endsWith(";") && !line.contains("(")) {
                check.same("static fields are final: " + line, line.contains(" final "), true);
            }
            check.same("package", line.startsWith("package"), false);
        }
    }

    private void methods() {
        Set<String> face = new HashSet<>(List.of(FACE.split(" ")));
        int from = -1;
        int count = 0;
        String name = "";
        for (int k = 0; k < lines.size(); k++) {
            Matcher m = HEAD.matcher(lines.get(k));
            if (m.matches() && !lines.get(k).contains(" new ")) {
                from = k;
                count++;
                name = m.group(1);
                boolean isPublic = lines.get(k).contains("public ");
                check.same("the name " + name, !isPublic && face.contains(name), false);
                check.same("parameters of " + name, m.group(2).split(",").length <= 7, true);
            } else if (from >= 0 && lines.get(k).matches(" {4,8}\\}") && indent(k) == indent(from)) {
                check.same("lines of " + name, k - from + 1 <= 60, true);
                from = -1;
            }
        }
        check.same("methods were found", count > 80, true);
    }

    private int indent(int k) {
        String line = lines.get(k);
        return line.length() - line.stripLeading().length();
    }

    private void face() {
        Set<String> found = new TreeSet<>();
        for (Method method : LaneWarps.class.getDeclaredMethods()) {
            boolean isPublic = Modifier.isPublic(method.getModifiers());
            check.same(method + " is public or private", isPublic || Modifier.isPrivate(method.getModifiers()) || method.isSynthetic(), true);
            if (isPublic) {
                found.add(method.getName());
            }
        }
        check.same("public methods", found.equals(new TreeSet<>(List.of(FACE.split(" ")))), true);
        check.same("final", Modifier.isFinal(LaneWarps.class.getModifiers()), true);
        List<String> fields = new ArrayList<>();
        for (java.lang.reflect.Field field : LaneWarps.class.getDeclaredFields()) {
            if (!Modifier.isPrivate(field.getModifiers())) {
                fields.add(field.getName());
            }
        }
        check.same("public constants", fields.equals(List.of("NONE", "NOTHING")), true);
        check.same("classes inside", LaneWarps.class.getDeclaredClasses().length <= 12, true);
        for (Class<?> inside : LaneWarps.class.getDeclaredClasses()) {
            check.same(inside + " is static", Modifier.isStatic(inside.getModifiers()), true);
            int count = 0;
            for (java.lang.reflect.Field field : inside.getDeclaredFields()) {
                count += Modifier.isStatic(field.getModifiers()) ? 0 : 1;
            }
            check.same("fields of " + inside, count <= 20, true);
        }
    }
}
