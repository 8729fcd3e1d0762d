import java.lang.reflect.Method;
import java.lang.reflect.Modifier;
import java.nio.file.Files;
import java.nio.file.Path;
import java.util.Arrays;
import java.util.List;
import java.util.Set;
import java.util.TreeSet;
import java.util.regex.Matcher;
import java.util.regex.Pattern;

/** Makes the calls that README.md shows and compares their answers with those that it tells. */
public final class ReadmeTest {
    private static final String NEW_OBJECT = "SkyEcho sky = new SkyEcho();";
    private static final Pattern CALL =
            Pattern.compile("sky\\.(\\w+)\\(([^)]*)\\);\\s*// (true|false|-?\\d+)(?![\\w.]).*");
    private static final Pattern ROW = Pattern.compile("\\| `(\\w+)\\(([^)]*)\\)` \\|.*\\| (`false`|-1|-2) \\|");

    private static int wrong = 0;

    private static void tell(String text) {
        wrong++;
        System.out.println(text);
    }

    private static Set<String> publicNames() {
        Set<String> names = new TreeSet<>();
        for (Method method : SkyEcho.class.getDeclaredMethods()) {
            if (Modifier.isPublic(method.getModifiers())) {
                names.add(method.getName());
            }
        }
        return names;
    }

    private static Method method(String name, int parameters) throws NoSuchMethodException {
        Class<?>[] types = new Class<?>[parameters];
        Arrays.fill(types, int.class);
        return SkyEcho.class.getMethod(name, types);
    }

    private static String answer(SkyEcho sky, String name, String numbers) throws ReflectiveOperationException {
        String[] texts = numbers.split(",\\s*");
        Object[] arguments = new Object[texts.length];
        for (int i = 0; i < texts.length; i++) {
            arguments[i] = Integer.decode(texts[i]);
        }
        return String.valueOf(method(name, texts.length).invoke(sky, arguments));
    }

    /** Every line that begins with a call must have its answer: one that can't be read is wrong, too. */
    private static Set<String> shownCalls(List<String> lines) throws ReflectiveOperationException {
        Set<String> shown = new TreeSet<>();
        SkyEcho sky = new SkyEcho();
        for (String line : lines) {
            if (line.equals(NEW_OBJECT)) {
                sky = new SkyEcho();
            } else if (line.startsWith("sky.")) {
                Matcher call = CALL.matcher(line);
                if (!call.matches()) {
                    tell("no call with its answer: " + line);
                    continue;
                }
                shown.add(call.group(1));
                String got = answer(sky, call.group(1), call.group(2));
                if (!got.equals(call.group(3))) {
                    tell(line + " -- answered " + got);
                }
            }
        }
        return shown;
    }

    /** The answer that the table gives for what is wrong is that of numbers that are wrong everywhere. */
    private static Set<String> tableRows(List<String> lines) throws ReflectiveOperationException {
        Set<String> rows = new TreeSet<>();
        for (String line : lines) {
            Matcher row = ROW.matcher(line);
            if (row.matches()) {
                rows.add(row.group(1));
                String wild = row.group(2).replaceAll("\\w+", String.valueOf(Integer.MIN_VALUE));
                String got = answer(new SkyEcho(), row.group(1), wild);
                if (!got.equals(row.group(3).replace("`", ""))) {
                    tell(line + " -- answered " + got);
                }
            }
        }
        return rows;
    }

    public static void main(String[] args) throws Exception {
        List<String> lines = Files.readAllLines(Path.of(System.getProperty("skyecho.readme", "README.md")));
        Set<String> names = publicNames();
        Set<String> shown = shownCalls(lines);
        if (!shown.equals(names)) {
            tell("README.md shows calls of " + shown + ", the face has " + names);
        }
        Set<String> rows = tableRows(lines);
        if (!rows.equals(names)) {
            tell("README.md has rows of " + rows + ", the face has " + names);
        }
        System.out.println(wrong == 0 ? "README.md is as the class" : wrong + " things are not as due");
        if (wrong != 0) {
            System.exit(1);
        }
    }
}
