import java.io.IOException;
import java.lang.reflect.Constructor;
import java.lang.reflect.Field;
import java.lang.reflect.Member;
import java.lang.reflect.Method;
import java.lang.reflect.Modifier;
import java.nio.file.Files;
import java.nio.file.Path;
import java.util.ArrayList;
import java.util.List;
import java.util.TreeSet;

/** The public face is that of the document, and no member beside it can be seen from outside. */
public final class FaceTest {
    private static final Checks checks = new Checks();

    public static void main(String[] args) throws IOException {
        Path shared = Path.of(args.length > 0 ? args[0] : "../shared");
        TreeSet<String> due = documented(shared.resolve("DOC.md"));
        TreeSet<String> got = new TreeSet<>();
        for (Constructor<?> made : CuratorAquarum.class.getDeclaredConstructors()) {
            got.add("public CuratorAquarum(" + types(made.getParameterTypes()) + ")" + types(made.getExceptionTypes()));
        }
        TreeSet<String> hidden = new TreeSet<>();
        TreeSet<String> open = new TreeSet<>();
        for (Method method : CuratorAquarum.class.getDeclaredMethods()) {
            if (Modifier.isPrivate(method.getModifiers())) {
                hidden.add(method.getName());
            } else {
                open.add(method.getName());
                got.add(Modifier.toString(method.getModifiers()) + " " + method.getReturnType().getSimpleName() + " "
                        + method.getName() + "(" + types(method.getParameterTypes()) + ")"
                        + types(method.getExceptionTypes()));
            }
        }
        checks.due(1, "the public face", due, got);
        checks.due(1, "methods in the document", 51, open.size());
        hidden.retainAll(open);
        checks.due(1, "private methods with public names", new TreeSet<String>(), hidden);
        checks.due(1, "fields that are not private", List.of(), notPrivate(CuratorAquarum.class.getDeclaredFields()));
        checks.due(1, "public and final", Modifier.PUBLIC | Modifier.FINAL, CuratorAquarum.class.getModifiers());
        checks.end();
    }

    private static List<String> notPrivate(Field[] fields) {
        List<String> names = new ArrayList<>();
        for (Member field : fields) {
            if (!Modifier.isPrivate(field.getModifiers())) {
                names.add(field.getName());
            }
        }
        return names;
    }

    private static String types(Class<?>[] types) {
        StringBuilder text = new StringBuilder();
        for (Class<?> type : types) {
            text.append(type.getSimpleName()).append(' ');
        }
        return text.toString();
    }

    private static TreeSet<String> documented(Path document) throws IOException {
        TreeSet<String> face = new TreeSet<>();
        boolean isInside = false;
        for (String line : Files.readAllLines(document)) {
            if (line.startsWith("```")) {
                isInside = !isInside;
            } else if (isInside && line.startsWith("    public ")) {
                face.add(signature(line.trim()));
            }
        }
        return face;
    }

    /** From "public int water(int node) throws E;" to "public int water(int )E ". */
    private static String signature(String line) {
        int open = line.indexOf('(');
        int shut = line.indexOf(')');
        StringBuilder text = new StringBuilder(line.substring(0, open + 1));
        for (String parameter : line.substring(open + 1, shut).split(", ")) {
            if (!parameter.isEmpty()) {
                text.append(parameter.split(" ")[0]).append(' ');
            }
        }
        text.append(')');
        String thrown = line.substring(shut + 1, line.length() - 1).replace(" throws ", "");
        for (String exception : thrown.split(", ")) {
            if (!exception.isEmpty()) {
                text.append(exception).append(' ');
            }
        }
        return text.toString();
    }
}
