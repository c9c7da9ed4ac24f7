import java.io.File;
import java.io.PrintWriter;
import java.io.StringWriter;
import java.net.URISyntaxException;
import java.nio.file.Path;
import java.util.ArrayDeque;
import java.util.ArrayList;
import java.util.Deque;
import java.util.List;
import java.util.Map;
import java.util.Set;
import java.util.TreeMap;
import java.util.TreeSet;
import java.util.regex.Matcher;
import java.util.regex.Pattern;
import java.util.spi.ToolProvider;

/** Who calls whom, seen in the compiled class: rules 4 (the library), 8 (recursion) and 11 (how deep) of LANGUAGE.md. */
public final class CallsTest {
    private static final int MOST_DEEP = 8;
    private static final Set<String> LIBRARY = Set.of("java/util/ArrayList.<init>:()V",
            "java/util/ArrayList.add:(Ljava/lang/Object;)Z", "java/util/ArrayList.add:(ILjava/lang/Object;)V",
            "java/util/ArrayList.get:(I)Ljava/lang/Object;", "java/util/ArrayList.remove:(I)Ljava/lang/Object;",
            "java/util/ArrayList.size:()I", "java/lang/Math.floorMod:(II)I", "java/lang/Math.max:(II)I",
            "java/lang/Math.min:(II)I", "java/lang/Object.<init>:()V");
    private static final Set<String> EXCEPTIONS = Set.of("java/lang/IllegalStateException",
            "java/lang/IllegalArgumentException", "java/lang/IndexOutOfBoundsException",
            "java/lang/UnsupportedOperationException", "java/util/NoSuchElementException");
    private static final String OF_TEXT = ".<init>:(Ljava/lang/String;)V";

    private static final Checks checks = new Checks();
    /** Of each own method's name and signs the same of those that it calls, whatever class they are in. */
    private static final Map<String, TreeSet<String>> calls = new TreeMap<>();
    private static final TreeSet<String> beyond = new TreeSet<>();

    public static void main(String[] args) throws URISyntaxException {
        // .ci/run promises to need javac and java alone: a JDK may come without javap.
        ToolProvider javap = ToolProvider.findFirst("javap").orElse(null);
        if (javap == null) {
            System.out.println("this JDK has no javap: not asked");
            return;
        }
        read(disassembled(javap));
        checks.due(1, "calls beyond the library of rule 4", new TreeSet<String>(), beyond);
        checks.due(1, "methods that were read", true, calls.size() > 100);
        int deepest = 0;
        for (String method : calls.keySet()) {
            deepest = Math.max(deepest, depth(method, new ArrayDeque<>()));
        }
        checks.due(1, "calls at most " + MOST_DEEP + " deep, not " + deepest, true, deepest <= MOST_DEEP);
        checks.end();
    }

    private static String disassembled(ToolProvider javap) throws URISyntaxException {
        File place = Path.of(CuratorAquarum.class.getProtectionDomain().getCodeSource().getLocation().toURI()).toFile();
        List<String> arguments = new ArrayList<>(List.of("-c", "-p", "-s"));
        for (String name : place.list()) {
            if (name.equals("CuratorAquarum.class") || name.startsWith("CuratorAquarum$")) {
                arguments.add(new File(place, name).getPath());
            }
        }
        StringWriter text = new StringWriter();
        int code = javap.run(new PrintWriter(text), new PrintWriter(System.out, true), arguments.toArray(new String[0]));
        checks.due(1, "exit code of javap", 0, code);
        return text.toString();
    }

    private static void read(String text) {
        Pattern head = Pattern.compile("  \\S.*?([\\w.$]+)\\(.*;");
        Pattern signs = Pattern.compile("    descriptor: (\\(.*)");
        Pattern call = Pattern.compile(".*\\binvoke\\w+ .*// \\w+ (\\S+)");
        String name = "";
        String method = "";
        for (String line : text.split("\n")) {
            Matcher heading = head.matcher(line);
            Matcher described = signs.matcher(line);
            Matcher called = call.matcher(line);
            if (heading.matches()) {
                name = heading.group(1);
            } else if (described.matches()) {
                method = (name.startsWith("CuratorAquarum") ? name + ".<init>" : name) + ":" + described.group(1);
                calls.computeIfAbsent(method, key -> new TreeSet<>());
            } else if (called.matches()) {
                keep(method, called.group(1).replace("\"", ""));
            }
        }
    }

    private static void keep(String method, String called) {
        boolean isOfLibrary = called.startsWith("java/");
        if (isOfLibrary) {
            boolean isException = called.endsWith(OF_TEXT)
                    && EXCEPTIONS.contains(called.substring(0, called.length() - OF_TEXT.length()));
            if (!isException && !LIBRARY.contains(called)) {
                beyond.add(called);
            }
        } else if (called.contains("<init>")) {
            boolean isNamed = called.startsWith("CuratorAquarum");
            calls.get(method).add(isNamed ? called : method.substring(0, method.indexOf('.')) + "." + called);
        } else {
            calls.get(method).add(called.substring(called.indexOf('.') + 1));
        }
    }

    /** A method that overrides another one and calls it by super is not counted as one that calls itself. */
    private static int depth(String method, Deque<String> open) {
        if (open.contains(method)) {
            checks.due(1, method + " is open twice", true, method.equals(open.peek()) && method.equals("mix:()V"));
            return 0;
        }
        open.push(method);
        int most = 0;
        for (String called : calls.getOrDefault(method, new TreeSet<>())) {
            most = Math.max(most, depth(called, open));
        }
        open.pop();
        return most + 1;
    }
}
