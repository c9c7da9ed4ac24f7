import java.io.IOException;
import java.nio.file.Files;
import java.nio.file.Path;
import java.util.ArrayList;
import java.util.List;
import java.util.NoSuchElementException;
import java.util.TreeSet;

/** Counts the answers that are not due, and tells each with the number of its promise. */
final class Checks {
    interface Call {
        Object answer();
    }

    interface Asked {
        Object of(CuratorAquarum city);
    }

    interface Maker {
        CuratorAquarum city();
    }

    static final Class<?> INDEX = IndexOutOfBoundsException.class;
    static final Class<?> ARGUMENT = IllegalArgumentException.class;
    static final Class<?> UNSUPPORTED = UnsupportedOperationException.class;
    static final Class<?> STATE = IllegalStateException.class;
    static final Class<?> NOTHING = NoSuchElementException.class;

    private int made = 0;
    private int wrong = 0;
    private String sentence = "";
    private final TreeSet<String> sentences = new TreeSet<>();
    private final TreeSet<String> refusals = new TreeSet<>();

    void due(int promise, String what, Object want, Object got) {
        count("promise " + promise + ", " + what, want, got);
    }

    /** The sentence of the document that the next calls of holds ask about. */
    void sentence(String words) {
        sentence = words;
        sentences.add(words);
    }

    void holds(String what, Object want, Object got) {
        count("'" + sentence + "', " + what, want, got);
    }

    private void count(String about, Object want, Object got) {
        made++;
        if (!want.equals(got)) {
            wrong++;
            System.out.println(about + ": answered " + got + ", due is " + want);
        }
    }

    /** The call throws just that, and the sum over all stays as it was. */
    void refused(int promise, String what, CuratorAquarum city, Class<?> want, Call call) {
        long before = city.checksum();
        due(promise, what, want.getName(), outcome(call));
        due(promise, what + ", the sum behind it", before, city.checksum());
    }

    /** The call throws just that, and leaves a city that is in all like its twin that was not asked. */
    void leavesAll(int promise, String what, Maker maker, Class<?> want, Asked call) {
        refusals.add(promise + " " + want.getSimpleName());
        CuratorAquarum asked = maker.city();
        due(promise, what, want.getName(), outcome(() -> call.of(asked)));
        due(promise, what + ", what it leaves", "", Portrait.difference(maker.city(), asked));
    }

    static Object outcome(Call call) {
        try {
            return call.answer();
        } catch (RuntimeException e) {
            return e.getClass().getName() + (isOwn(e) ? "" : ", thrown by the machine");
        }
    }

    /** The library throws exceptions of the same names: only one that the class throws itself counts. */
    private static boolean isOwn(RuntimeException e) {
        StackTraceElement[] trace = e.getStackTrace();
        return trace.length > 0
                && (trace[0].getClassName().startsWith("CuratorAquarum")
                || trace[0].getClassName().startsWith("PlainCity"));
    }

    /** Each sentence of 'Terms' was asked about, and no other one. */
    void allTermsAsked(Path document) throws IOException {
        String text = Files.readString(document);
        int start = text.indexOf("\n## Terms") + "\n## Terms".length();
        String terms = text.substring(start, text.indexOf("\nAhead of the calls", start)).replaceAll("\\s+", " ").trim();
        List<String> open = new ArrayList<>();
        for (String words : terms.split("(?<=\\.) ")) {
            boolean isHeading = words.split(" ").length < 3;
            if (!isHeading && !sentences.remove(words)) {
                open.add(words);
            }
        }
        due(0, "sentences of 'Terms' without a test", List.of(), open);
        due(0, "sentences that are not in 'Terms'", new TreeSet<String>(), sentences);
    }

    /** Each exception that the document names was asked for behind its own promise, and no other one. */
    void allRefusalsAsked(Path document) throws IOException {
        TreeSet<String> named = new TreeSet<>();
        String promise = "";
        for (String line : Files.readAllLines(document)) {
            if (line.startsWith("## Promise ")) {
                promise = line.substring("## Promise ".length(), line.indexOf(':'));
            } else if (line.startsWith("Throws `")) {
                named.add(promise + " " + line.substring("Throws `".length(), line.lastIndexOf('`')));
            }
        }
        due(0, "exceptions that were asked for", named, refusals);
    }

    void end() {
        System.out.println(made + " checks, " + wrong + " wrong");
        if (wrong != 0 || made == 0) {
            System.exit(1);
        }
    }
}
