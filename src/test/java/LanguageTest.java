import java.io.IOException;
import java.lang.reflect.Executable;
import java.lang.reflect.Field;
import java.lang.reflect.Method;
import java.lang.reflect.Modifier;
import java.nio.file.Files;
import java.nio.file.Path;
import java.util.ArrayList;
import java.util.List;
import java.util.Set;
import java.util.TreeSet;
import java.util.regex.Matcher;
import java.util.regex.Pattern;

/** What can be seen of the rules of LANGUAGE.md from the program's text and from its compiled classes. */
public final class LanguageTest {
    private static final int MOST_LINES = 60;
    private static final int MOST_PARAMETERS = 7;
    private static final int MOST_FIELDS = 20;
    private static final int MOST_CLASSES = 12;
    private static final Set<String> IMPORTS = Set.of("java.util.ArrayList", "java.util.NoSuchElementException");
    private static final Set<String> THROWN = Set.of("IllegalStateException", "IllegalArgumentException",
            "IndexOutOfBoundsException", "ArithmeticException", "UnsupportedOperationException", "NoSuchElementException",
            "RuntimeException");
    private static final String[] FORBIDDEN = {"::", "->", "@", "finally", "synchronized", "assert", "catch", "package ",
        "Exact(", "getClass", "hashCode", "toString(", "equals(", "System.", "Thread", "random", "Object", "Double.",
        "Float.", "String.format", "static {", "? extends", "? super", "interface ", "lambda", "native", "volatile"};

    private static final Checks checks = new Checks();

    public static void main(String[] args) throws IOException {
        Path root = Path.of(args.length > 1 ? args[1] : ".");
        String text = Files.readString(root.resolve("src/main/java/CuratorAquarum.java"));
        String bare = withoutTexts(text);
        imports(text);
        words(text, bare);
        thrown(bare);
        lengths(bare);
        classes();
        checks.end();
    }

    /** Rule 4 and the rules beside it speak of the program itself, not of its comments and written texts. */
    private static String withoutTexts(String text) {
        return text.replaceAll("(?s)/\\*.*?\\*/", "").replaceAll("//[^\n]*", "").replaceAll("\"[^\"\n]*\"", "\"\"");
    }

    private static void imports(String text) {
        Matcher found = Pattern.compile("(?m)^import ([^;]*);").matcher(text);
        TreeSet<String> names = new TreeSet<>();
        while (found.find()) {
            names.add(found.group(1));
        }
        names.removeAll(IMPORTS);
        checks.due(1, "imports beyond rule 4", new TreeSet<String>(), names);
    }

    private static void words(String text, String bare) {
        List<String> found = new ArrayList<>();
        for (String word : FORBIDDEN) {
            if (bare.contains(word)) {
                found.add(word);
            }
        }
        checks.due(1, "words that the rules leave out", List.of(), found);
        checks.due(1, "signs from 1 to 127 alone", true, text.chars().allMatch(c -> c >= 1 && c <= 127));
        checks.due(1, "texts joined by +", false, Pattern.compile("\"\\s*\\+|\\+\\s*\"").matcher(bare).find());
        checks.due(1, "one public class", 1L, Pattern.compile("\\bpublic (final )?class\\b").matcher(bare).results().count());
    }

    private static void thrown(String bare) {
        Matcher found = Pattern.compile("\\bthrow\\b([^;]*);").matcher(bare);
        List<String> other = new ArrayList<>();
        while (found.find()) {
            Matcher made = Pattern.compile(" new (\\w+)\\((\"\")?\\)").matcher(found.group(1));
            if (!made.matches() || !THROWN.contains(made.group(1))) {
                other.add(found.group());
            }
        }
        checks.due(1, "throws beyond rule 6", List.of(), other);
    }

    /** A method or constructor begins at a depth of 1 or 2 with a line that has a bracket, and ends with its brace. */
    private static void lengths(String bare) {
        List<String> tooLong = new ArrayList<>();
        String[] lines = bare.split("\n");
        int depth = 0;
        int start = -1;
        int startDepth = 0;
        for (int i = 0; i < lines.length; i++) {
            boolean opensBody = lines[i].trim().endsWith("{") && !lines[i].contains(" class ");
            if (start < 0 && opensBody && depth >= 1 && depth <= 2) {
                start = i;
                startDepth = depth;
            }
            depth += count(lines[i], '{') - count(lines[i], '}');
            if (start >= 0 && depth == startDepth) {
                if (i - start + 1 > MOST_LINES) {
                    tooLong.add(lines[start].trim());
                }
                start = -1;
            }
        }
        checks.due(1, "methods that are too long", List.of(), tooLong);
        checks.due(1, "braces", 0, depth);
    }

    private static int count(String line, char sign) {
        return (int) line.chars().filter(c -> c == sign).count();
    }

    private static void classes() {
        List<Class<?>> all = new ArrayList<>();
        all.add(CuratorAquarum.class);
        all.addAll(List.of(CuratorAquarum.class.getDeclaredClasses()));
        checks.due(1, "classes", true, all.size() <= MOST_CLASSES);
        TreeSet<String> face = new TreeSet<>();
        for (Method method : CuratorAquarum.class.getDeclaredMethods()) {
            if (Modifier.isPublic(method.getModifiers())) {
                face.add(method.getName());
            }
        }
        for (Class<?> one : all) {
            String name = one.getSimpleName();
            if (one != CuratorAquarum.class) {
                boolean isHidden = !Modifier.isPublic(one.getModifiers()) && !Modifier.isProtected(one.getModifiers());
                checks.due(1, name + " is static and not public", true, isHidden && Modifier.isStatic(one.getModifiers()));
            }
            checks.due(1, name + " has no classes inside", true, one == CuratorAquarum.class || one.getDeclaredClasses().length == 0);
            checks.due(1, name + " is no exception", false, Throwable.class.isAssignableFrom(one));
            fields(one);
            methods(one, face);
        }
    }

    private static void fields(Class<?> one) {
        int own = 0;
        for (Field field : one.getDeclaredFields()) {
            if (Modifier.isStatic(field.getModifiers())) {
                checks.due(1, field.getName() + " is final", true, Modifier.isFinal(field.getModifiers()));
            } else {
                own++;
            }
            checks.due(1, field.getName() + " is of a type of rule 3", true, isAllowed(field.getType()));
        }
        checks.due(1, one.getSimpleName() + " has few fields", true, own <= MOST_FIELDS);
    }

    private static boolean isAllowed(Class<?> type) {
        return type.isPrimitive() || type == String.class || type == ArrayList.class
                || type.isArray() && (type.getComponentType().isPrimitive() || isOwn(type.getComponentType())) || isOwn(type);
    }

    private static boolean isOwn(Class<?> type) {
        return type.getName().startsWith("CuratorAquarum");
    }

    private static void methods(Class<?> one, Set<String> face) {
        List<Executable> all = new ArrayList<>(List.of(one.getDeclaredMethods()));
        all.addAll(List.of(one.getDeclaredConstructors()));
        for (Executable each : all) {
            checks.due(1, each.getName() + " takes few", true, each.getParameterCount() <= MOST_PARAMETERS);
            boolean isPrivate = Modifier.isPrivate(each.getModifiers()) && each instanceof Method;
            checks.due(1, each.getName() + " bears no public name", false, isPrivate && face.contains(each.getName()));
        }
    }
}
