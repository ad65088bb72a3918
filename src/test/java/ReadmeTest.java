import java.io.IOException;
import java.lang.reflect.Method;
import java.lang.reflect.Modifier;
import java.nio.file.Files;
import java.nio.file.Path;
import java.util.regex.Matcher;
import java.util.regex.Pattern;

/** What README.md shows is so: each call answers what is said behind it, and the table names every call. */
public final class ReadmeTest {
    private static final Pattern SHOWN = Pattern.compile("(?m)^x\\.(\\w+)\\((.*?)\\); +// ([\\w-]+)");

    public static void main(String[] args) throws IOException, ReflectiveOperationException {
        String readme = Files.readString(Path.of("README.md"));
        Check check = new Check();
        check.about("README.md");
        checkShown(check, readme);
        for (Method method : LaneWarps.class.getDeclaredMethods()) {
            if (Modifier.isPublic(method.getModifiers())) {
                boolean named = Pattern.compile("(?m)^\\|.*`" + method.getName() + "`").matcher(readme).find();
                check.same(method.getName() + " is in the table", named, true);
            }
        }
        check.close("ReadmeTest");
    }

    private static void checkShown(Check check, String readme) throws ReflectiveOperationException {
        LaneWarps x = new LaneWarps();
        Matcher shown = SHOWN.matcher(readme);
        int count = 0;
        while (shown.find()) {
            Object got = answer(x, shown.group(1), shown.group(2).split(", *"));
            check.same(shown.group() + ", answered " + got, got.equals(value(shown.group(3))), true);
            count++;
        }
        check.same("each line with a call was read", readme.lines().filter(line -> line.startsWith("x.")).count(), count);
        check.same("calls are shown", count > 10, true);
    }

    private static Object answer(LaneWarps x, String name, String[] given) throws ReflectiveOperationException {
        for (Method method : LaneWarps.class.getMethods()) {
            if (method.getName().equals(name)) {
                Object[] values = new Object[method.getParameterCount()];
                for (int k = 0; k < values.length; k++) {
                    values[k] = value(given[k]);
                }
                return method.invoke(x, values);
            }
        }
        throw new IllegalArgumentException("no such call: " + name);
    }

    private static Object value(String word) {
        switch (word) {
            case "true": return true;
            case "false": return false;
            case "NONE": return LaneWarps.NONE;
            case "NOTHING": return LaneWarps.NOTHING;
            default: return Integer.decode(word);
        }
    }
}
