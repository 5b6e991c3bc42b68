import java.io.IOException;
import java.nio.file.Files;
import java.nio.file.Path;
import java.util.function.Consumer;
import java.util.function.Supplier;

/** Runs one test for each sentence of the document that names an edge; the sentence is the test's name. */
final class Edges {
    private static final Path DOCUMENT = Path.of("../shared/DOC.md");

    private final Check check = new Check();
    private final String document;
    private String sentence = "";

    Edges() throws IOException {
        document = Files.isReadable(DOCUMENT) ? Files.readString(DOCUMENT) : null;
    }

    /** A test that asks nothing, or stands for words that the document doesn't have, is wrong itself. */
    void edge(String where, String words, Runnable test) {
        sentence = where + " \"" + words + "\": ";
        check.startPart();
        if (document != null) {
            due("the document has these words", document.contains(words), true);
        }
        int before = check.asked();
        test.run();
        if (check.asked() == before) {
            due("answers asked", 0, 1);
        }
    }

    void due(String what, long got, long want) {
        check.due(sentence + what, got, want);
    }

    void due(String what, boolean got, boolean want) {
        check.due(sentence + what, got, want);
    }

    void due(String what, String got, String want) {
        check.due(sentence + what, got, want);
    }

    /**
     * Of two objects made alike one is asked a call more, that does nothing: they look alike then, and after
     * the same further calls, by which the bytes on the tape come to light.
     */
    void doesNothing(String what, Supplier<LeafSigner> make, Consumer<LeafSigner> call) {
        LeafSigner plain = make.get();
        LeafSigner asked = make.get();
        call.accept(asked);
        due(what + ", then", Bench.seen(asked), Bench.seen(plain));
        due(what + ", a verify later", asked.verify(asked.about(7)), plain.verify(plain.about(7)));
        asked.rise();
        plain.rise();
        due(what + ", a sign later", asked.sign(asked.about(7)), plain.sign(plain.about(7)));
        due(what + ", behind it", Bench.seen(asked), Bench.seen(plain));
        Bench.feed(asked, 99, 5);
        Bench.feed(plain, 99, 5);
        due(what + ", keys later", asked.keys(), plain.keys());
        due(what + ", behind them", Bench.seen(asked), Bench.seen(plain));
    }

    void finish() {
        check.finish();
    }
}
