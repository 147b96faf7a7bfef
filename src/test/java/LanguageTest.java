import java.io.IOException;
import java.lang.reflect.Constructor;
import java.lang.reflect.Executable;
import java.lang.reflect.Field;
import java.lang.reflect.Method;
import java.lang.reflect.Modifier;
import java.nio.file.Files;
import java.nio.file.Path;
import java.util.ArrayList;
import java.util.Arrays;
import java.util.List;
import java.util.Map;
import java.util.Set;
import java.util.TreeMap;
import java.util.TreeSet;
import java.util.regex.Matcher;
import java.util.regex.Pattern;

/** The rules of LANGUAGE.md, as far as they can be seen in the class and in the lines of its file. */
public final class LanguageTest extends Bench {
    private static final Path FILE = Path.of("src/main/java/WireMessages.java");
    private static final String[] FORBIDDEN = {"->", "::", "\\bfinally\\b", "\\bsynchronized\\b", "\\bassert\\b",
        "\\bprotected\\b", "\\bSystem\\.(?!arraycopy\\b)", "\\bThread\\b", "\\bRandom\\b", "\\bgetMessage\\b",
        "\\bwhile \\(true\\)", "\\w*Exact\\(", "\\bvar\\b", "\\bObject\\b", "static \\{", "\\bnative\\b"};
    private static final Set<String> THROWN = Set.of("IllegalStateException", "IllegalArgumentException",
            "IndexOutOfBoundsException", "UnsupportedOperationException", "NoSuchElementException");
    private static final int MOST_LINES = 60;
    private static final int MOST_DEEP = 8;

    private LanguageTest() {
    }

    public static void main(String[] args) throws IOException {
        List<Class<?>> classes = new ArrayList<>(List.of(WireMessages.class));
        classes.addAll(Arrays.asList(WireMessages.class.getDeclaredClasses()));
        classesInside(classes);
        fields(classes);
        methods(classes);
        words(withoutComments(Files.readString(FILE)));
        methodLengths(Files.readAllLines(FILE));
        callDepths(classes, withoutComments(Files.readString(FILE)));
        finish();
    }

    private static void classesInside(List<Class<?>> classes) {
        by("rules 1, 2 and 11: classes inside are static, private or package-visible, and some twelve at most");
        if (classes.size() > 12) {
            tell("there are " + classes.size() + " classes");
        }
        for (Class<?> inside : classes.subList(1, classes.size())) {
            int bits = inside.getModifiers();
            if (!Modifier.isStatic(bits) || Modifier.isPublic(bits) || Modifier.isProtected(bits)) {
                tell(inside.getName() + " is " + Modifier.toString(bits));
            }
        }
    }

    private static void fields(List<Class<?>> classes) {
        by("rules 5 and 11: static fields are final constants; a class has some twenty fields beside them");
        for (Class<?> one : classes) {
            int own = 0;
            for (Field field : one.getDeclaredFields()) {
                boolean isStatic = Modifier.isStatic(field.getModifiers());
                own += isStatic ? 0 : 1;
                if (isStatic && !(Modifier.isFinal(field.getModifiers()) && field.getType().isPrimitive())) {
                    tell("not a constant: " + field);
                }
            }
            if (own > 20) {
                tell(one.getName() + " has " + own + " fields");
            }
        }
    }

    private static void methods(List<Class<?>> classes) {
        by("rules 1 and 11: no private method bears the name of a public one; at most seven parameters");
        Set<String> face = new TreeSet<>();
        for (Method method : WireMessages.class.getDeclaredMethods()) {
            if (Modifier.isPublic(method.getModifiers())) {
                face.add(method.getName());
            }
        }
        for (Class<?> one : classes) {
            for (Method method : one.getDeclaredMethods()) {
                parameters(method);
                if (!Modifier.isPublic(method.getModifiers()) && face.contains(method.getName())) {
                    tell("it bears the name of a public one: " + method);
                }
            }
            for (Constructor<?> constructor : one.getDeclaredConstructors()) {
                parameters(constructor);
            }
        }
    }

    private static void parameters(Executable method) {
        if (method.getParameterCount() > 7) {
            tell("more than seven parameters: " + method);
        }
    }

    private static String withoutComments(String text) {
        return text.replaceAll("(?s)/\\*.*?\\*/", "").replaceAll("//[^\n]*", "");
    }

    private static void words(String text) {
        by("rules 2 to 13: what the file has no place for");
        for (String word : FORBIDDEN) {
            if (Pattern.compile(word).matcher(text).find()) {
                tell("the file has " + word);
            }
        }
        Matcher imports = Pattern.compile("import ([^;]*);").matcher(text);
        while (imports.find()) {
            if (!imports.group(1).equals("java.util.NoSuchElementException")) {
                tell("the file imports " + imports.group(1));
            }
        }
        Matcher thrown = Pattern.compile("\\bthrow\\b([^;]*);").matcher(text);
        while (thrown.find()) {
            String made = thrown.group(1).trim();
            if (!made.matches("new \\w+\\(\\)") || !THROWN.contains(made.substring(4, made.length() - 2))) {
                tell("the file throws " + made);
            }
        }
    }

    /** A method begins with private or public and a parenthesis, and ends with a brace as far to the left. */
    private static void methodLengths(List<String> lines) {
        by("rule 11: methods stay short (some sixty lines)");
        Pattern start = Pattern.compile("( +)(private|public)\\b[^=]*\\([^=]*(\\{|,|\\))");
        for (int i = 0; i < lines.size(); i++) {
            Matcher found = start.matcher(lines.get(i));
            if (!found.matches()) {
                continue;
            }
            int end = i;
            while (end < lines.size() && !lines.get(end).equals(found.group(1) + "}")) {
                end++;
            }
            if (end - i > MOST_LINES) {
                tell("a method of " + (end - i) + " lines: " + lines.get(i));
            }
        }
    }

    /** Methods of the same name count as one, so the depth that is found is never too low. */
    private static void callDepths(List<Class<?>> classes, String text) {
        by("rules 8 and 11: no recursion; calls go at most eight deep");
        Map<String, String> bodies = new TreeMap<>();
        Pattern start = Pattern.compile("\n( +)(?:private|public) [^=;{]*?\\b(\\w+)\\([^=;{]*\\{\n(?s:(.*?))\n\\1\\}");
        Matcher found = start.matcher(text);
        while (found.find()) {
            bodies.merge(found.group(2), found.group(3), (one, other) -> one + other);
        }
        for (Class<?> one : classes) {
            for (Method method : one.getDeclaredMethods()) {
                if (!bodies.containsKey(method.getName())) {
                    tell("not found in the file: " + method);
                }
            }
        }
        for (String name : bodies.keySet()) {
            if (depthOf(name, bodies, MOST_DEEP) > MOST_DEEP) {
                tell("calls go more than " + MOST_DEEP + " deep from " + name);
            }
        }
    }

    private static int depthOf(String name, Map<String, String> bodies, int left) {
        int deepest = 0;
        Matcher call = Pattern.compile("\\b(\\w+)\\(").matcher(bodies.get(name));
        while (call.find() && left > 0) {
            if (bodies.containsKey(call.group(1))) {
                deepest = Math.max(deepest, depthOf(call.group(1), bodies, left - 1));
            }
        }
        return left == 0 ? MOST_DEEP + 1 : 1 + deepest;
    }
}
