import java.io.IOException;
import java.nio.file.Path;

/** Each sentence of 'Terms' has a test of its own; one that the document gets anew is found wanting here. */
public final class TermsTest {
    public static void main(String[] args) throws IOException {
        Checks checks = new Checks();
        new TermsOfWater(checks).ask();
        new TermsOfPeople(checks).ask();
        checks.allTermsAsked(Path.of(args.length > 0 ? args[0] : "../shared", "DOC.md"));
        checks.end();
    }
}
