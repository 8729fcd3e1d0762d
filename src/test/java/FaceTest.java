import java.lang.reflect.Constructor;
import java.lang.reflect.Field;
import java.lang.reflect.Method;
import java.lang.reflect.Modifier;
import java.nio.file.Files;
import java.nio.file.Path;
import java.util.Arrays;
import java.util.Set;
import java.util.TreeSet;
import java.util.regex.Matcher;
import java.util.regex.Pattern;

/** The public face, and the rules of LANGUAGE.md that can be read from the class and its text. */
public final class FaceTest {
    private static final String[] FACE = {
        "boolean board(int,int,int,int)", "boolean echo(int,int,int,int)", "boolean blank(int)",
        "boolean noise(int,int)", "boolean shift(int)", "int tell(int,int,int,int)", "int trace(int,int)",
        "int height(int,int)", "int undone(int)", "int place(int,int,int)", "boolean value(int,int,int,int)",
        "boolean scale(int,int,int)", "boolean miss(int,int)", "int table(int,int,int)", "int middle(int,int)",
        "int hops(int,int,int,int)", "int fewest(int,int)", "int station(int,int,int)",
        "boolean tellStation(int,int)", "int map(int,int)", "int count(int)", "boolean image(int)",
        "boolean again(int)"
    };
    private static final String[] RULED_OUT = {
        "throw", "throws", "try", "catch", "synchronized", "assert", "package", "protected", "native",
        "Random", "Thread", "currentTimeMillis", "nanoTime", "->", "::", "\\w+Exact", "hashCode"
    };

    /** What rule 4 leaves of the static functions that a class like this could want. */
    private static final Set<String> LIBRARY = Set.of("System.arraycopy", "Arrays.copyOf", "Arrays.copyOfRange",
            "Arrays.fill", "List.of");
    private static final Set<String> IMPORTS = Set.of("java.util.ArrayList", "java.util.Arrays",
            "java.util.Iterator", "java.util.List");
    private static final int TOP_CLASSES = 12;
    private static final int TOP_LINES = 60;

    private static int wrong = 0;

    private static void due(boolean holds, String what) {
        if (!holds) {
            wrong++;
            System.out.println(what);
        }
    }

    private static String signature(Method method) {
        StringBuilder text = new StringBuilder(method.getReturnType() + " " + method.getName() + "(");
        Class<?>[] types = method.getParameterTypes();
        for (int i = 0; i < types.length; i++) {
            text.append(i == 0 ? "" : ",").append(types[i]);
        }
        return text.append(")").toString();
    }

    private static void face() {
        Class<?> type = SkyEcho.class;
        due(Modifier.isPublic(type.getModifiers()) && Modifier.isFinal(type.getModifiers()),
                "the class is not public and final");
        Set<String> seen = new TreeSet<>();
        Set<String> names = new TreeSet<>();
        for (Method method : type.getDeclaredMethods()) {
            if (!Modifier.isPrivate(method.getModifiers())) {
                seen.add(signature(method));
                names.add(method.getName());
                due(Modifier.isPublic(method.getModifiers()) && !Modifier.isStatic(method.getModifiers()),
                        "not a plain public method: " + method);
            }
        }
        Set<String> want = new TreeSet<>(Arrays.asList(FACE));
        due(seen.equals(want), "the face is " + seen + ", due is " + want);
        Constructor<?>[] made = type.getDeclaredConstructors();
        due(made.length == 1 && Modifier.isPublic(made[0].getModifiers()) && made[0].getParameterCount() == 0,
                "the constructor is not the one that is due");
        for (Method method : type.getDeclaredMethods()) {
            due(!Modifier.isPrivate(method.getModifiers()) || !names.contains(method.getName()),
                    "a private method bears a public name: " + method);
        }
        fields(type);
        for (Class<?> inside : type.getDeclaredClasses()) {
            due(Modifier.isStatic(inside.getModifiers()) && !Modifier.isPublic(inside.getModifiers()),
                    "a class inside is not static and hidden: " + inside);
            insideClass(inside, names);
        }
    }

    private static void fields(Class<?> type) {
        for (Field field : type.getDeclaredFields()) {
            boolean none = field.getName().equals("NONE");
            due(none ? Modifier.isPublic(field.getModifiers()) : Modifier.isPrivate(field.getModifiers()),
                    "a field is seen wrongly: " + field);
        }
        due(SkyEcho.NONE == -1, "NONE is not -1");
    }

    private static void insideClass(Class<?> inside, Set<String> names) {
        for (Method method : inside.getDeclaredMethods()) {
            due(!Modifier.isPrivate(method.getModifiers()) || !names.contains(method.getName()),
                    "a private method inside bears a public name: " + method);
            due(method.getParameterCount() <= 7, "more than seven parameters: " + method);
        }
        int own = 0;
        for (Field field : inside.getDeclaredFields()) {
            boolean fixed = Modifier.isStatic(field.getModifiers());
            due(!fixed || Modifier.isFinal(field.getModifiers()), "static state: " + field);
            own += fixed ? 0 : 1;
        }
        due(own <= 20, "more than twenty fields: " + inside);
    }

    private static void words() throws Exception {
        String source = Files.readString(Path.of(System.getProperty("skyecho.source", "src/main/java/SkyEcho.java")));
        String bare = source.replaceAll("(?s)/\\*.*?\\*/", " ").replaceAll("//[^\\n]*", " ");
        // The arrow of a switch is no lambda's.
        String code = bare.replaceAll("\\b(case\\b[^:;{}]*?|default\\s*)->", " ");
        for (String word : RULED_OUT) {
            boolean letters = Character.isLetter(word.charAt(0)) || word.charAt(0) == '\\';
            Matcher matcher = Pattern.compile(letters ? "\\b" + word + "\\b" : word).matcher(code);
            due(!matcher.find(), "ruled out: " + word);
        }
        library(code);
        due(longestMethod(bare) <= TOP_LINES, "a method of " + longestMethod(bare) + " lines");
        for (char c : source.toCharArray()) {
            due(c < 128, "a character outside ASCII: " + (int) c);
        }
    }

    /** A static function of the library is allowed by its name, or as one of Integer, Long or Math over int and long. */
    private static void library(String code) {
        Matcher imported = Pattern.compile("\\bimport\\s+([\\w.*\\s]+?)\\s*;").matcher(code);
        while (imported.find()) {
            due(IMPORTS.contains(imported.group(1)), "ruled out: import " + imported.group(1));
        }
        Set<String> own = new TreeSet<>();
        Matcher declared = Pattern.compile("\\b(?:class|enum|record|interface)\\s+(\\w+)").matcher(code);
        while (declared.find()) {
            own.add(declared.group(1));
        }
        due(own.size() <= TOP_CLASSES, "more than twelve classes: " + own);
        Matcher called = Pattern.compile("\\b([A-Z]\\w*)\\s*\\.\\s*(\\w+)\\s*\\(").matcher(code);
        while (called.find()) {
            boolean numbers = Set.of("Integer", "Long", "Math").contains(called.group(1));
            boolean fine = numbers || own.contains(called.group(1))
                    || LIBRARY.contains(called.group(1) + "." + called.group(2));
            due(fine, "ruled out: " + called.group());
        }
        due(!Pattern.compile("\\bjava\\s*\\.").matcher(code.replaceAll("\\bimport[^;]*;", "")).find(),
                "a library's name written out");
    }

    /** Lines from a method's head to its closing brace, as the braces stand at the depth of the text. */
    private static int longestMethod(String bare) {
        int longest = 0;
        int head = -1;
        String indent = "";
        String[] lines = bare.split("\n", -1);
        Pattern start = Pattern.compile("( {4}| {8})\\w[\\w<>\\[\\] ]+\\([^;]*");
        for (int i = 0; i < lines.length; i++) {
            Matcher matcher = start.matcher(lines[i]);
            if (head < 0 && matcher.matches()) {
                head = i;
                indent = matcher.group(1);
            } else if (head >= 0 && lines[i].equals(indent + "}")) {
                longest = Math.max(longest, i - head + 1);
                head = -1;
            }
        }
        return longest;
    }

    public static void main(String[] args) throws Exception {
        face();
        words();
        System.out.println(wrong == 0 ? "the face is as due" : wrong + " things are not as due");
        if (wrong != 0) {
            System.exit(1);
        }
    }
}
