import java.io.IOException;
import java.lang.reflect.InvocationTargetException;
import java.lang.reflect.Method;
import java.lang.reflect.Modifier;
import java.nio.file.Files;
import java.nio.file.Path;
import java.util.ArrayList;
import java.util.Arrays;
import java.util.List;
import java.util.regex.Matcher;
import java.util.regex.Pattern;

/** What README.md says: the calls of its example answer what stands behind them, and it names each call and each test. */
public final class ReadmeTest {
    private static final Pattern CALL = Pattern.compile("land\\.(\\w+)\\(([-\\d, ]*)\\);\\s*// (-?[\\d.]*\\d|\\w+Exception): .*");
    private static final Pattern TEXT = Pattern.compile("for \\(char c : \"([^\"]*)\"\\.toCharArray\\(\\)\\) \\{");

    private static LandQuarters land;
    private static int calls = 0;

    private static List<String> example(String page) {
        int start = page.indexOf("```java\n");
        int end = start < 0 ? -1 : page.indexOf("```", start + 7);
        return end < 0 ? new ArrayList<>() : Arrays.asList(page.substring(start + 8, end).split("\n"));
    }

    private static void follow(String line) throws IllegalAccessException {
        Matcher text = TEXT.matcher(line);
        Matcher call = CALL.matcher(line);
        if (line.equals("LandQuarters land = new LandQuarters();")) {
            land = new LandQuarters();
        } else if (text.matches()) {
            Checks.write(land, text.group(1));
        } else if (call.matches()) {
            calls++;
            Checks.due(line, call.group(3), answer(call.group(1), call.group(2)));
        } else {
            boolean isKnown = line.isEmpty() || line.startsWith("// ") || line.equals("    land.append(c);") || line.equals("}");
            Checks.due("the test can read: " + line, true, isKnown);
        }
    }

    private static String answer(String name, String told) throws IllegalAccessException {
        String[] words = told.isEmpty() ? new String[0] : told.split(", ");
        Class<?>[] types = new Class<?>[words.length];
        Object[] arguments = new Object[words.length];
        for (int i = 0; i < words.length; i++) {
            types[i] = int.class;
            arguments[i] = Integer.valueOf(words[i]);
        }
        try {
            return String.valueOf(LandQuarters.class.getMethod(name, types).invoke(land, arguments));
        } catch (NoSuchMethodException e) {
            return "no such call";
        } catch (InvocationTargetException e) {
            return e.getCause().getClass().getSimpleName();
        }
    }

    private static void namesAllCalls(String page) {
        for (Method method : LandQuarters.class.getDeclaredMethods()) {
            if (Modifier.isPublic(method.getModifiers())) {
                Checks.due("the page names " + method.getName(), true, page.contains("`" + method.getName() + "`"));
            }
        }
    }

    private static void namesAllTests(String page, Path folder) throws IOException {
        try (var files = Files.newDirectoryStream(folder, "*.java")) {
            for (Path file : files) {
                String name = file.getFileName().toString().replace(".java", "");
                Checks.due("the page names " + name, true, page.contains("`" + name + "`"));
            }
        }
    }

    public static void main(String[] args) throws IOException, IllegalAccessException {
        Checks.sentence("README.md says how to use the class and how to run its tests.");
        Checks.due("the arguments: the paths of LandQuarters.java and of README.md", 2, args.length);
        if (args.length == 2) {
            String page = Files.readString(Path.of(args[1]));
            for (String line : example(page)) {
                follow(line);
            }
            Checks.due("the example has calls", true, calls > 0);
            namesAllCalls(page);
            namesAllTests(page, Path.of(args[1]).resolveSibling("src/test/java"));
        }
        Checks.end();
    }
}
