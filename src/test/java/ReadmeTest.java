import java.io.IOException;
import java.nio.file.Files;
import java.nio.file.Path;
import java.util.Set;
import java.util.TreeSet;
import java.util.regex.Matcher;
import java.util.regex.Pattern;

/** README.md tells of each method with the special answers the document names, and its example answers as it says. */
public final class ReadmeTest {
    private static final Path DOCUMENT = Path.of("../shared/DOC.md");
    /** A promise of a method: its line in code, and the paragraph behind it. */
    private static final Pattern PROMISE = Pattern.compile("## Promise \\d+: .*\n\n`([^`]+)`: (.*)");
    private static final Pattern SPECIAL = Pattern.compile("NONE|[Tt]rue|[Ff]alse|-[2-5]");

    private final Check check = new Check();
    private final String readme;
    private final String[] example;
    private int line = 0;

    private ReadmeTest() throws IOException {
        readme = Files.readString(Path.of("README.md"));
        Matcher block = Pattern.compile("(?s)```java\n(.*?)\n```").matcher(readme);
        example = block.find() ? block.group(1).split("\n") : new String[0];
    }

    public static void main(String[] args) throws IOException {
        ReadmeTest test = new ReadmeTest();
        if (Files.isReadable(DOCUMENT)) {
            test.tellsOfEachPromise(Files.readString(DOCUMENT));
        }
        test.exampleAnswersAsItSays();
        test.check.due("it says how the tests are run", test.readme.contains("\n    .ci/run\n"), true);
        test.check.finish();
    }

    private void tellsOfEachPromise(String document) {
        Matcher promise = PROMISE.matcher(document);
        int found = 0;
        while (promise.find()) {
            found++;
            String method = promise.group(1);
            String told = entryOf(method);
            check.due("it tells of " + method, told.isEmpty(), false);
            Set<String> missing = specialsIn(promise.group(2));
            missing.removeAll(specialsIn(told));
            check.due("answers of " + method + " it doesn't tell", missing.toString(), "[]");
        }
        check.due("promises of the document", found, 15);
    }

    /** From the method's own line to the next entry or the end of the list. */
    private String entryOf(String method) {
        Matcher entry = Pattern.compile("(?s)\n- `" + Pattern.quote(method) + "`: (.*?)(?=\n- |\n\n)").matcher(readme);
        return entry.find() ? entry.group(1) : "";
    }

    private static Set<String> specialsIn(String text) {
        Set<String> specials = new TreeSet<>();
        Matcher special = SPECIAL.matcher(text);
        while (special.find()) {
            specials.add(special.group().replace('T', 't').replace('F', 'f'));
        }
        return specials;
    }

    private void exampleAnswersAsItSays() {
        shows("LeafSigner x = new LeafSigner(3, 2);");
        LeafSigner x = new LeafSigner(3, 2);
        answers("x.feed(1, 2, 3, 4, 5)", x.feed(1, 2, 3, 4, 5));
        answers("x.feed(6, 7, 8, 9, 10)", x.feed(6, 7, 8, 9, 10));
        answers("x.feed(11, 12, 13, 14, 15)", x.feed(11, 12, 13, 14, 15));
        answers("x.feed(16, 17, 18, 19, 20)", x.feed(16, 17, 18, 19, 20));
        answers("x.feed(21, 22, 23, 24, 25)", x.feed(21, 22, 23, 24, 25));
        answers("x.keys()", x.keys());
        answers("x.feed(0x61626300, 0, 0, 0, 0)", x.feed(0x61626300, 0, 0, 0, 0));
        answers("x.sign(3)", x.sign(3));
        answers("x.about(8)", x.about(8));
        answers("x.out(3)", x.out(3));
        answers("x.hold()", x.hold());
        answers("x.feed(0x61626300, 0, 0, 0, 0)", x.feed(0x61626300, 0, 0, 0, 0));
        answers("x.verify(3)", x.verify(3));
        answers("x.verify(2)", x.verify(2));
        answers("x.alter(40, 1)", x.alter(40, 1));
        answers("x.verify(3)", x.verify(3));
        answers("x.fuse(5)", x.fuse(5));
        answers("x.sign(0)", x.sign(0));
        answers("x.sign(0)", x.sign(0));
        answers("x.sign(0)", x.sign(0));
        answers("x.rise()", x.rise());
        answers("x.sign(0)", x.sign(0));
        answers("x.fall()", x.fall());
        answers("x.leaf(3)", x.leaf(3));
        answers("x.rise()", x.rise());
        answers("x.sign(0)", x.sign(0));
        check.due("lines of the example", example.length, line);
    }

    private void answers(String call, Object answer) {
        shows(call + "; // " + answer);
    }

    /** The next line of the example is this one, but for spaces and what is told behind a colon. */
    private void shows(String due) {
        String told = line < example.length ? example[line].replaceAll("; +//", "; //").replaceAll(": .*", "") : "";
        line++;
        check.due("line " + line + " of the example", told, due);
    }
}
